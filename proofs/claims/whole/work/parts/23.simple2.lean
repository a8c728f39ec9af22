theorem all_s_iff {p : Int → Prop} {n : Int} (hn : 0 ≤ n) : (∀ i : Int, 0 ≤ i → i < n + 1 → p i) ↔ (∀ i : Int, 0 ≤ i → i < n → p i) ∧ p n :=
  ⟨fun h => ⟨fun i a b => h i a (by omega), h n hn (by omega)⟩, fun h => all_s h.1 h.2⟩
/-- those for which q is so, in their order -/
def SelOk (q : Int → Prop) (m : Int) (F : Int → Int) (n : Int) : Prop := n = cnt q m ∧ ∀ j, 0 ≤ j → j < m → q j → F (cnt q j) = j
theorem Sel_0 (q : Int → Prop) (F : Int → Int) : SelOk q 0 F 0 := ⟨rfl, fun j a b => by omega⟩
theorem Sel_t {q : Int → Prop} {m n n1 : Int} {F : Int → Int} (h : SelOk q m F n) (hm : 0 ≤ m) (hq : q m) (e : n1 = n + 1) : SelOk q (m + 1) (upA F n m) n1 := by
  refine ⟨by rw [cnt_t hm hq, ← h.1]; exact e, fun j a b c => ?_⟩
  by_cases e2 : j = m
  · subst e2
    rw [h.1, upA_same]
  · have h2 := cnt_up (p := q) (m := j + 1) (n := m) (by omega) (by omega)
    rw [cnt_t a c] at h2
    rw [upA_ne (by rw [h.1]; omega)]
    exact h.2 j a (by omega) c
theorem Sel_f {q : Int → Prop} {m n : Int} {F : Int → Int} (h : SelOk q m F n) (hm : 0 ≤ m) (hq : ¬ q m) : SelOk q (m + 1) F n := by
  refine ⟨by rw [cnt_f hm hq]; exact h.1, fun j a b c => ?_⟩
  by_cases e2 : j = m
  · subst e2; exact absurd c hq
  · exact h.2 j a (by omega) c
theorem cnt_hit {q : Int → Prop} {m i : Int} (hm : 0 ≤ m) (h0 : 0 ≤ i) (h : i < cnt q m) : ∃ j, 0 ≤ j ∧ j < m ∧ q j ∧ cnt q j = i := by
  refine nat_ind (p := fun m => i < cnt q m → ∃ j, 0 ≤ j ∧ j < m ∧ q j ∧ cnt q j = i) (fun h => by rw [cnt_0] at h; omega) (fun m hm ih h => ?_) m hm h
  by_cases e : q m
  · rw [cnt_t hm e] at h
    by_cases e2 : i = cnt q m
    · exact ⟨m, hm, by omega, e, e2.symm⟩
    · obtain ⟨j, a, b, c, d⟩ := ih (by omega)
      exact ⟨j, a, by omega, c, d⟩
  · rw [cnt_f hm e] at h
    obtain ⟨j, a, b, c, d⟩ := ih h
    exact ⟨j, a, by omega, c, d⟩
theorem Sel_eq {q r : Int → Prop} {m n n1 : Int} {F F1 : Int → Int} (hm : 0 ≤ m) (h : SelOk q m F n) (h1 : SelOk r m F1 n1) (hq : ∀ i, 0 ≤ i → i < m → (q i ↔ r i)) : n1 = n ∧ ∀ i, 0 ≤ i → i < n → F1 i = F i := by
  have e := cnt_congr hq
  refine ⟨by rw [h.1, h1.1, e], fun i a b => ?_⟩
  rw [h.1] at b
  obtain ⟨j, x, y, z, w⟩ := cnt_hit hm a b
  have e2 := cnt_congr (p := q) (q := r) (n := j) (fun i a b => hq i a (by omega))
  have h3 := h1.2 j x y ((hq j x y).mp z)
  rw [← e2, w] at h3
  have h4 := h.2 j x y z
  rw [w] at h4
  rw [h3, h4]

theorem wd_f10_16 : Cond.fieldLink "NameRolls$Trade" 16 "NameRolls$Trade" "sizes" "[I" ∈ UW := UW2_at 77 (by decide +kernel) rfl
theorem wd_f10_13 : Cond.fieldLink "NameRolls$Trade" 13 "NameRolls$Trade" "lists" "[[I" ∈ UW := UW2_at 76 (by decide +kernel) rfl
theorem wd_f10_47 : Cond.fieldLink "NameRolls$Trade" 47 "NameRolls$Trade" "crowd" "LNameRolls$Crowd;" ∈ UW := UW2_at 74 (by decide +kernel) rfl
theorem wd_m10_55 : Cond.methodLink "NameRolls$Trade" 55 M_X1_get.1 ∈ UW := UW5_at 181 (by decide +kernel) rfl
theorem wd_f10_61 : Cond.fieldLink "NameRolls$Trade" 61 "NameRolls$Person" "side" "I" ∈ UW := UW3_at 155 (by decide +kernel) rfl
theorem wd_m10_66 : Cond.methodLink "NameRolls$Trade" 66 M_X10_placeOf.1 ∈ UW := UW5_at 182 (by decide +kernel) rfl
theorem wd_s10_placeOf : Cond.selects M_X10_placeOf.1.cls M_X10_placeOf.1 M_X10_placeOf.1 ∈ UW := UWp_at 32 (by decide +kernel) rfl
theorem wd_f10_70 : Cond.fieldLink "NameRolls$Trade" 70 "NameRolls$Person" "state" "I" ∈ UW := UW3_at 176 (by decide +kernel) rfl
theorem wd_f12_144 : Cond.fieldLink "NameRollsModel" 144 "NameRollsModel" "offers" "[I" ∈ UW := UW7_at 129 (by decide +kernel) rfl
theorem wd_f12_141 : Cond.fieldLink "NameRollsModel" 141 "NameRollsModel" "offered" "[I" ∈ UW := UW7_at 128 (by decide +kernel) rfl
theorem wd_f10_23 : Cond.fieldLink "NameRolls$Trade" 23 "NameRolls$Trade" "ratioTold" "I" ∈ UW := UW2_at 79 (by decide +kernel) rfl
theorem wd_f12_147 : Cond.fieldLink "NameRollsModel" 147 "NameRollsModel" "ratio" "I" ∈ UW := UW7_at 130 (by decide +kernel) rfl
theorem wd_f10_20 : Cond.fieldLink "NameRolls$Trade" 20 "NameRolls$Trade" "bestSets" "[I" ∈ UW := UW2_at 78 (by decide +kernel) rfl
theorem wd_f12_150 : Cond.fieldLink "NameRollsModel" 150 "NameRollsModel" "lastBest" "I" ∈ UW := UW7_at 131 (by decide +kernel) rfl
theorem wd_f12_153 : Cond.fieldLink "NameRollsModel" 153 "NameRollsModel" "bestSet" "[I" ∈ UW := UW7_at 132 (by decide +kernel) rfl
theorem wd_f7_46 : Cond.fieldLink "NameRolls$Ship" 46 "NameRolls$Ship" "land" "LNameRolls$Land;" ∈ UW := UW2_at 117 (by decide +kernel) rfl
theorem wd_m7_54 : Cond.methodLink "NameRolls$Ship" 54 M_X2_isCamp.1 ∈ UW := UW6_at 43 (by decide +kernel) rfl
theorem wd_f7_64 : Cond.fieldLink "NameRolls$Ship" 64 "NameRolls$Ship" "told" "I" ∈ UW := UW2_at 119 (by decide +kernel) rfl
theorem wd_m7_68 : Cond.methodLink "NameRolls$Ship" 68 M_X2_farFrom.1 ∈ UW := UW6_at 45 (by decide +kernel) rfl
theorem wd_f7_11 : Cond.fieldLink "NameRolls$Ship" 11 "NameRolls$Ship" "camps" "[I" ∈ UW := UW2_at 120 (by decide +kernel) rfl
theorem wd_f7_15 : Cond.fieldLink "NameRolls$Ship" 15 "NameRolls$Ship" "stretchersOf" "[I" ∈ UW := UW2_at 121 (by decide +kernel) rfl
theorem wd_f7_18 : Cond.fieldLink "NameRolls$Ship" 18 "NameRolls$Ship" "feetOf" "[I" ∈ UW := UW2_at 122 (by decide +kernel) rfl
theorem wd_f12_452 : Cond.fieldLink "NameRollsModel" 452 "NameRollsModel" "loads" "I" ∈ UW := UW7_at 139 (by decide +kernel) rfl
theorem wd_f12_165 : Cond.fieldLink "NameRollsModel" 165 "NameRollsModel" "loadCamp" "[I" ∈ UW := UW7_at 136 (by decide +kernel) rfl
theorem wd_f12_168 : Cond.fieldLink "NameRollsModel" 168 "NameRollsModel" "loadStretchers" "[I" ∈ UW := UW7_at 137 (by decide +kernel) rfl
theorem wd_f12_171 : Cond.fieldLink "NameRollsModel" 171 "NameRollsModel" "loadFeet" "[I" ∈ UW := UW7_at 138 (by decide +kernel) rfl
theorem wd_f7_104 : Cond.fieldLink "NameRolls$Ship" 104 "NameRolls$Ship" "voyages" "I" ∈ UW := UW2_at 133 (by decide +kernel) rfl
theorem wd_f7_43 : Cond.fieldLink "NameRolls$Ship" 43 "NameRolls$Ship" "bestDays" "[I" ∈ UW := UW2_at 132 (by decide +kernel) rfl
theorem wd_f7_40 : Cond.fieldLink "NameRolls$Ship" 40 "NameRolls$Ship" "bestSets" "[I" ∈ UW := UW2_at 131 (by decide +kernel) rfl
theorem wd_f12_458 : Cond.fieldLink "NameRollsModel" 458 "NameRollsModel" "bestVoyages" "I" ∈ UW := UW7_at 145 (by decide +kernel) rfl
theorem wd_f12_186 : Cond.fieldLink "NameRollsModel" 186 "NameRollsModel" "bestDay" "[I" ∈ UW := UW7_at 144 (by decide +kernel) rfl
theorem wd_f12_183 : Cond.fieldLink "NameRollsModel" 183 "NameRollsModel" "bestVoyage" "[I" ∈ UW := UW7_at 143 (by decide +kernel) rfl
theorem wd_f0_16 : Cond.fieldLink "NameRolls$Bridge" 16 "NameRolls$Bridge" "sizes" "[I" ∈ UW := UW2_at 177 (by decide +kernel) rfl
theorem wd_f0_13 : Cond.fieldLink "NameRolls$Bridge" 13 "NameRolls$Bridge" "minutesOf" "[[I" ∈ UW := UW2_at 176 (by decide +kernel) rfl
theorem wd_f12_192 : Cond.fieldLink "NameRollsModel" 192 "NameRollsModel" "walkers" "[I" ∈ UW := UW7_at 151 (by decide +kernel) rfl
theorem wd_f12_189 : Cond.fieldLink "NameRollsModel" 189 "NameRollsModel" "walker" "[I" ∈ UW := UW7_at 150 (by decide +kernel) rfl
theorem wd_f0_51 : Cond.fieldLink "NameRolls$Bridge" 51 "NameRolls$Bridge" "length" "I" ∈ UW := UW2_at 184 (by decide +kernel) rfl
theorem wd_f0_35 : Cond.fieldLink "NameRolls$Bridge" 35 "NameRolls$Bridge" "starts" "[I" ∈ UW := UW2_at 183 (by decide +kernel) rfl
theorem wd_f12_483 : Cond.fieldLink "NameRollsModel" 483 "NameRollsModel" "beganMany" "I" ∈ UW := UW7_at 155 (by decide +kernel) rfl
theorem wd_f12_198 : Cond.fieldLink "NameRollsModel" 198 "NameRollsModel" "began" "[I" ∈ UW := UW7_at 154 (by decide +kernel) rfl
theorem wd_f1_174 : Cond.fieldLink "NameRolls$Crowd" 174 "NameRolls$Crowd" "soughtSize" "I" ∈ UW := UW1_at 88 (by decide +kernel) rfl
theorem wd_f1_33 : Cond.fieldLink "NameRolls$Crowd" 33 "NameRolls$Crowd" "soughtCamp" "[I" ∈ UW := UW1_at 85 (by decide +kernel) rfl
theorem wd_f1_36 : Cond.fieldLink "NameRolls$Crowd" 36 "NameRolls$Crowd" "soughtFrom" "[I" ∈ UW := UW1_at 86 (by decide +kernel) rfl
theorem wd_f1_39 : Cond.fieldLink "NameRolls$Crowd" 39 "NameRolls$Crowd" "soughtTo" "[I" ∈ UW := UW1_at 87 (by decide +kernel) rfl
theorem wd_f12_489 : Cond.fieldLink "NameRollsModel" 489 "NameRollsModel" "soughtMany" "I" ∈ UW := UW7_at 159 (by decide +kernel) rfl
theorem wd_f12_201 : Cond.fieldLink "NameRollsModel" 201 "NameRollsModel" "soughtCamp" "[I" ∈ UW := UW7_at 156 (by decide +kernel) rfl
theorem wd_f12_204 : Cond.fieldLink "NameRollsModel" 204 "NameRollsModel" "soughtFrom" "[I" ∈ UW := UW7_at 157 (by decide +kernel) rfl
theorem wd_f12_207 : Cond.fieldLink "NameRollsModel" 207 "NameRollsModel" "soughtTo" "[I" ∈ UW := UW7_at 158 (by decide +kernel) rfl
theorem wd_m1_186 : Cond.methodLink "NameRolls$Crowd" 186 Lib.Math.max.name ∈ UW := UW6_at 149 (by decide +kernel) rfl
theorem wd_m1_191 : Cond.methodLink "NameRolls$Crowd" 191 Lib.Math.min.name ∈ UW := UW6_at 150 (by decide +kernel) rfl
theorem wd_f1_180 : Cond.fieldLink "NameRolls$Crowd" 180 "NameRolls$Crowd" "foundSize" "I" ∈ UW := UW1_at 90 (by decide +kernel) rfl
theorem wd_m1_183 : Cond.methodLink "NameRolls$Crowd" 183 M_X1_couldBeSought.1 ∈ UW := UW6_at 145 (by decide +kernel) rfl
theorem wd_s1_couldBeSought : Cond.selects M_X1_couldBeSought.1.cls M_X1_couldBeSought.1 M_X1_couldBeSought.1 ∈ UW := UWp_at 51 (by decide +kernel) rfl
theorem wd_f1_42 : Cond.fieldLink "NameRolls$Crowd" 42 "NameRolls$Crowd" "foundOnes" "[I" ∈ UW := UW1_at 89 (by decide +kernel) rfl
theorem wd_f12_492 : Cond.fieldLink "NameRollsModel" 492 "NameRollsModel" "foundMany" "I" ∈ UW := UW7_at 161 (by decide +kernel) rfl
theorem wd_m12_495 : Cond.methodLink "NameRollsModel" 495 M_X12_couldBe.1 ∈ UW := UW10_at 49 (by decide +kernel) rfl
theorem wd_s12_couldBe : Cond.selects M_X12_couldBe.1.cls M_X12_couldBe.1 M_X12_couldBe.1 ∈ UW := UWp_at 100 (by decide +kernel) rfl
theorem wd_f12_210 : Cond.fieldLink "NameRollsModel" 210 "NameRollsModel" "found" "[I" ∈ UW := UW7_at 160 (by decide +kernel) rfl
theorem wd_f6_31 : Cond.fieldLink "NameRolls$Rounds" 31 "NameRolls$Rounds" "size" "I" ∈ UW := UW2_at 212 (by decide +kernel) rfl
theorem wd_f6_11 : Cond.fieldLink "NameRolls$Rounds" 11 "NameRolls$Rounds" "goes" "[I" ∈ UW := UW2_at 210 (by decide +kernel) rfl
theorem wd_f6_15 : Cond.fieldLink "NameRolls$Rounds" 15 "NameRolls$Rounds" "comes" "[I" ∈ UW := UW2_at 211 (by decide +kernel) rfl
theorem wd_f12_498 : Cond.fieldLink "NameRollsModel" 498 "NameRollsModel" "lists" "I" ∈ UW := UW7_at 164 (by decide +kernel) rfl
theorem wd_f12_213 : Cond.fieldLink "NameRollsModel" 213 "NameRollsModel" "listGo" "[I" ∈ UW := UW7_at 162 (by decide +kernel) rfl
theorem wd_f12_216 : Cond.fieldLink "NameRollsModel" 216 "NameRollsModel" "listCome" "[I" ∈ UW := UW7_at 163 (by decide +kernel) rfl
theorem wd_f6_35 : Cond.fieldLink "NameRolls$Rounds" 35 "NameRolls$Rounds" "aimSize" "I" ∈ UW := UW2_at 214 (by decide +kernel) rfl
theorem wd_f6_18 : Cond.fieldLink "NameRolls$Rounds" 18 "NameRolls$Rounds" "aims" "[I" ∈ UW := UW2_at 213 (by decide +kernel) rfl
theorem wd_f12_501 : Cond.fieldLink "NameRollsModel" 501 "NameRollsModel" "aimMany" "I" ∈ UW := UW7_at 166 (by decide +kernel) rfl
theorem wd_f12_219 : Cond.fieldLink "NameRollsModel" 219 "NameRollsModel" "aims" "[I" ∈ UW := UW7_at 165 (by decide +kernel) rfl
theorem wd_f6_41 : Cond.fieldLink "NameRolls$Rounds" 41 "NameRolls$Rounds" "orderSize" "I" ∈ UW := UW2_at 218 (by decide +kernel) rfl
theorem wd_f6_24 : Cond.fieldLink "NameRolls$Rounds" 24 "NameRolls$Rounds" "bestOrder" "[I" ∈ UW := UW2_at 217 (by decide +kernel) rfl
theorem wd_f12_513 : Cond.fieldLink "NameRollsModel" 513 "NameRollsModel" "bestRowMany" "I" ∈ UW := UW7_at 169 (by decide +kernel) rfl
theorem wd_f12_225 : Cond.fieldLink "NameRollsModel" 225 "NameRollsModel" "bestRow" "[I" ∈ UW := UW7_at 168 (by decide +kernel) rfl
theorem wd_f1_194 : Cond.fieldLink "NameRolls$Crowd" 194 "NameRolls$Crowd" "bodiesKept" "I" ∈ UW := UW1_at 92 (by decide +kernel) rfl
theorem wd_f1_45 : Cond.fieldLink "NameRolls$Crowd" 45 "NameRolls$Crowd" "bodiesRun" "[I" ∈ UW := UW1_at 91 (by decide +kernel) rfl
theorem wd_f12_516 : Cond.fieldLink "NameRollsModel" 516 "NameRollsModel" "ran" "I" ∈ UW := UW7_at 172 (by decide +kernel) rfl
theorem wd_f12_228 : Cond.fieldLink "NameRollsModel" 228 "NameRollsModel" "trace" "[I" ∈ UW := UW7_at 171 (by decide +kernel) rfl
theorem wd_f11_55 : Cond.fieldLink "NameRolls" 55 "NameRolls" "trade" "LNameRolls$Trade;" ∈ UW := UW3_at 3 (by decide +kernel) rfl
theorem wd_m11_178 : Cond.methodLink "NameRolls" 178 M_X10_addOffer.1 ∈ UW := UW5_at 177 (by decide +kernel) rfl
theorem wd_s10_addOffer : Cond.selects M_X10_addOffer.1.cls M_X10_addOffer.1 M_X10_addOffer.1 ∈ UW := UW5_at 179 (by decide +kernel) rfl
theorem wd_m11_181 : Cond.methodLink "NameRolls" 181 M_X10_setRatio.1 ∈ UW := UW5_at 190 (by decide +kernel) rfl
theorem wd_s10_setRatio : Cond.selects M_X10_setRatio.1.cls M_X10_setRatio.1 M_X10_setRatio.1 ∈ UW := UW5_at 192 (by decide +kernel) rfl
theorem wd_m11_190 : Cond.methodLink "NameRolls" 190 M_X10_tellBest.1 ∈ UW := UW6_at 30 (by decide +kernel) rfl
theorem wd_s10_tellBest : Cond.selects M_X10_tellBest.1.cls M_X10_tellBest.1 M_X10_tellBest.1 ∈ UW := UW6_at 32 (by decide +kernel) rfl
theorem wd_f11_64 : Cond.fieldLink "NameRolls" 64 "NameRolls" "ship" "LNameRolls$Ship;" ∈ UW := UW3_at 4 (by decide +kernel) rfl
theorem wd_m11_193 : Cond.methodLink "NameRolls" 193 M_X7_addCamp.1 ∈ UW := UW6_at 39 (by decide +kernel) rfl
theorem wd_s7_addCamp : Cond.selects M_X7_addCamp.1.cls M_X7_addCamp.1 M_X7_addCamp.1 ∈ UW := UW6_at 41 (by decide +kernel) rfl
theorem wd_m11_198 : Cond.methodLink "NameRolls" 198 M_X7_tellVoyage.1 ∈ UW := UW6_at 76 (by decide +kernel) rfl
theorem wd_s7_tellVoyage : Cond.selects M_X7_tellVoyage.1.cls M_X7_tellVoyage.1 M_X7_tellVoyage.1 ∈ UW := UW6_at 78 (by decide +kernel) rfl
theorem wd_f11_71 : Cond.fieldLink "NameRolls" 71 "NameRolls" "crossing" "LNameRolls$Bridge;" ∈ UW := UW3_at 5 (by decide +kernel) rfl
theorem wd_m11_201 : Cond.methodLink "NameRolls" 201 M_X0_addWalker.1 ∈ UW := UW6_at 84 (by decide +kernel) rfl
theorem wd_s0_addWalker : Cond.selects M_X0_addWalker.1.cls M_X0_addWalker.1 M_X0_addWalker.1 ∈ UW := UW6_at 86 (by decide +kernel) rfl
theorem wd_m11_207 : Cond.methodLink "NameRolls" 207 M_X0_tellBegan.1 ∈ UW := UW6_at 123 (by decide +kernel) rfl
theorem wd_s0_tellBegan : Cond.selects M_X0_tellBegan.1.cls M_X0_tellBegan.1 M_X0_tellBegan.1 ∈ UW := UW6_at 125 (by decide +kernel) rfl
theorem wd_m11_210 : Cond.methodLink "NameRolls" 210 M_X1_addSought.1 ∈ UW := UW6_at 131 (by decide +kernel) rfl
theorem wd_s1_addSought : Cond.selects M_X1_addSought.1.cls M_X1_addSought.1 M_X1_addSought.1 ∈ UW := UW6_at 133 (by decide +kernel) rfl
theorem wd_m11_213 : Cond.methodLink "NameRolls" 213 M_X1_seek.1 ∈ UW := UW6_at 140 (by decide +kernel) rfl
theorem wd_s1_seek : Cond.selects M_X1_seek.1.cls M_X1_seek.1 M_X1_seek.1 ∈ UW := UW6_at 142 (by decide +kernel) rfl
theorem wd_m11_216 : Cond.methodLink "NameRolls" 216 M_X1_tellFound.1 ∈ UW := UW6_at 155 (by decide +kernel) rfl
theorem wd_s1_tellFound : Cond.selects M_X1_tellFound.1.cls M_X1_tellFound.1 M_X1_tellFound.1 ∈ UW := UW6_at 157 (by decide +kernel) rfl
theorem wd_f11_78 : Cond.fieldLink "NameRolls" 78 "NameRolls" "rounds" "LNameRolls$Rounds;" ∈ UW := UW3_at 6 (by decide +kernel) rfl
theorem wd_m11_219 : Cond.methodLink "NameRolls" 219 M_X6_addList.1 ∈ UW := UW6_at 163 (by decide +kernel) rfl
theorem wd_s6_addList : Cond.selects M_X6_addList.1.cls M_X6_addList.1 M_X6_addList.1 ∈ UW := UW6_at 165 (by decide +kernel) rfl
theorem wd_m11_222 : Cond.methodLink "NameRolls" 222 M_X6_addAim.1 ∈ UW := UW6_at 172 (by decide +kernel) rfl
theorem wd_s6_addAim : Cond.selects M_X6_addAim.1.cls M_X6_addAim.1 M_X6_addAim.1 ∈ UW := UW6_at 174 (by decide +kernel) rfl
theorem wd_m11_228 : Cond.methodLink "NameRolls" 228 M_X6_tellOrder.1 ∈ UW := UW6_at 207 (by decide +kernel) rfl
theorem wd_s6_tellOrder : Cond.selects M_X6_tellOrder.1.cls M_X6_tellOrder.1 M_X6_tellOrder.1 ∈ UW := UW6_at 209 (by decide +kernel) rfl
theorem wd_m11_234 : Cond.methodLink "NameRolls" 234 M_X1_tellTrace.1 ∈ UW := UW7_at 5 (by decide +kernel) rfl
theorem wd_s1_tellTrace : Cond.selects M_X1_tellTrace.1.cls M_X1_tellTrace.1 M_X1_tellTrace.1 ∈ UW := UW7_at 7 (by decide +kernel) rfl
theorem r_10_placeOf_0 : RC M_X10_placeOf 0 0 1 := ⟨⟨by decide, by decide⟩, Or.inl ⟨by decide +kernel, rfl⟩⟩
theorem r_10_placeOf_1 : RS M_X10_placeOf 1 3 2 := ⟨by decide, Or.inl ⟨3, by decide +kernel, rfl, rfl⟩⟩
theorem r_10_placeOf_2 : RL M_X10_placeOf 2 3 3 := Or.inl ⟨3, by decide +kernel, rfl, rfl⟩
theorem r_10_placeOf_3 : RA M_X10_placeOf 3 0 4 := Or.inl ⟨0, by decide +kernel, rfl, rfl⟩
theorem r_10_placeOf_4 : RG M_X10_placeOf 4 10 3 7 := ⟨16, _, by decide +kernel, rfl, by decide, wd_f10_16, rfl, rfl⟩
theorem r_10_placeOf_7 : RL M_X10_placeOf 7 1 8 := Or.inl ⟨1, by decide +kernel, rfl, rfl⟩
theorem r_10_placeOf_8 : RW M_X10_placeOf 8 .iaload 9 1 := ⟨by decide +kernel, rfl⟩
theorem r_10_placeOf_9 : RB M_X10_placeOf 9 (.if_icmp .ge) 32 12 := ⟨23, by decide +kernel, rfl, rfl⟩
theorem r_10_placeOf_32 : RC M_X10_placeOf 32 (-1) 33 := ⟨⟨by decide, by decide⟩, Or.inl ⟨by decide +kernel, rfl⟩⟩
theorem r_10_placeOf_33 : RW M_X10_placeOf 33 .ireturn 34 1 := ⟨by decide +kernel, rfl⟩
theorem r_10_placeOf_12 : RA M_X10_placeOf 12 0 13 := Or.inl ⟨0, by decide +kernel, rfl, rfl⟩
theorem r_10_placeOf_13 : RG M_X10_placeOf 13 10 2 16 := ⟨13, _, by decide +kernel, rfl, by decide, wd_f10_13, rfl, rfl⟩
theorem r_10_placeOf_16 : RL M_X10_placeOf 16 1 17 := Or.inl ⟨1, by decide +kernel, rfl, rfl⟩
theorem r_10_placeOf_17 : RW M_X10_placeOf 17 .aaload 18 1 := ⟨by decide +kernel, rfl⟩
theorem r_10_placeOf_18 : RL M_X10_placeOf 18 3 19 := Or.inl ⟨3, by decide +kernel, rfl, rfl⟩
theorem r_10_placeOf_19 : RW M_X10_placeOf 19 .iaload 20 1 := ⟨by decide +kernel, rfl⟩
theorem r_10_placeOf_20 : RL M_X10_placeOf 20 2 21 := Or.inl ⟨2, by decide +kernel, rfl, rfl⟩
theorem r_10_placeOf_21 : RB M_X10_placeOf 21 (.if_icmp .ne) 26 24 := ⟨5, by decide +kernel, rfl, rfl⟩
theorem r_10_placeOf_26 : RI M_X10_placeOf 26 3 1 29 := ⟨by decide, by decide +kernel, rfl⟩
theorem r_10_placeOf_29 : RB M_X10_placeOf 29 .goto 2 32 := ⟨(-27), by decide +kernel, rfl, rfl⟩
theorem r_10_placeOf_24 : RL M_X10_placeOf 24 3 25 := Or.inl ⟨3, by decide +kernel, rfl, rfl⟩
theorem r_10_placeOf_25 : RW M_X10_placeOf 25 .ireturn 26 1 := ⟨by decide +kernel, rfl⟩
theorem r_10_addOffer_0 : RA M_X10_addOffer 0 0 1 := Or.inl ⟨0, by decide +kernel, rfl, rfl⟩
theorem r_10_addOffer_1 : RG M_X10_addOffer 1 10 0 4 := ⟨47, _, by decide +kernel, rfl, by decide, wd_f10_47, rfl, rfl⟩
theorem r_10_addOffer_4 : RL M_X10_addOffer 4 1 5 := Or.inl ⟨1, by decide +kernel, rfl, rfl⟩
theorem r_10_addOffer_5 : RKv M_X10_addOffer M_X1_get 5 1 1 8 := ⟨55, by decide +kernel, wd_m10_55, ok_M_X1_get, wd_s1_get, rfl⟩
theorem r_10_addOffer_8 : RT M_X10_addOffer 8 2 9 := ⟨by decide, Or.inl ⟨2, by decide +kernel, rfl, rfl⟩⟩
theorem r_10_addOffer_9 : RA M_X10_addOffer 9 2 10 := Or.inl ⟨2, by decide +kernel, rfl, rfl⟩
theorem r_10_addOffer_10 : RB M_X10_addOffer 10 .ifnull 25 13 := ⟨15, by decide +kernel, rfl, rfl⟩
theorem r_10_addOffer_25 : RC M_X10_addOffer 25 (-1) 26 := ⟨⟨by decide, by decide⟩, Or.inl ⟨by decide +kernel, rfl⟩⟩
theorem r_10_addOffer_26 : RW M_X10_addOffer 26 .ireturn 27 1 := ⟨by decide +kernel, rfl⟩
theorem r_10_addOffer_13 : RA M_X10_addOffer 13 0 14 := Or.inl ⟨0, by decide +kernel, rfl, rfl⟩
theorem r_10_addOffer_14 : RA M_X10_addOffer 14 2 15 := Or.inl ⟨2, by decide +kernel, rfl, rfl⟩
theorem r_10_addOffer_15 : RG M_X10_addOffer 15 3 2 18 := ⟨61, _, by decide +kernel, rfl, by decide, wd_f10_61, rfl, rfl⟩
theorem r_10_addOffer_18 : RL M_X10_addOffer 18 1 19 := Or.inl ⟨1, by decide +kernel, rfl, rfl⟩
theorem r_10_addOffer_19 : RKv M_X10_addOffer M_X10_placeOf 19 2 10 22 := ⟨66, by decide +kernel, wd_m10_66, ok_M_X10_placeOf, wd_s10_placeOf, rfl⟩
theorem r_10_addOffer_22 : RB M_X10_addOffer 22 (.ifCond .lt) 27 25 := ⟨5, by decide +kernel, rfl, rfl⟩
theorem r_10_addOffer_27 : RA M_X10_addOffer 27 2 28 := Or.inl ⟨2, by decide +kernel, rfl, rfl⟩
theorem r_10_addOffer_28 : RG M_X10_addOffer 28 3 8 31 := ⟨70, _, by decide +kernel, rfl, by decide, wd_f10_70, rfl, rfl⟩
theorem r_10_addOffer_31 : RB M_X10_addOffer 31 (.ifCond .eq) 37 34 := ⟨6, by decide +kernel, rfl, rfl⟩
theorem r_10_addOffer_37 : RA M_X10_addOffer 37 0 38 := Or.inl ⟨0, by decide +kernel, rfl, rfl⟩
theorem r_10_addOffer_38 : RG M_X10_addOffer 38 10 3 41 := ⟨16, _, by decide +kernel, rfl, by decide, wd_f10_16, rfl, rfl⟩
theorem r_10_addOffer_41 : RA M_X10_addOffer 41 2 42 := Or.inl ⟨2, by decide +kernel, rfl, rfl⟩
theorem r_10_addOffer_42 : RG M_X10_addOffer 42 3 2 45 := ⟨61, _, by decide +kernel, rfl, by decide, wd_f10_61, rfl, rfl⟩
theorem r_10_addOffer_45 : RW M_X10_addOffer 45 .iaload 46 1 := ⟨by decide +kernel, rfl⟩
theorem r_10_addOffer_46 : RC M_X10_addOffer 46 7 48 := ⟨⟨by decide, by decide⟩, Or.inr (Or.inl ⟨by decide +kernel, by decide, rfl⟩)⟩
theorem r_10_addOffer_48 : RB M_X10_addOffer 48 (.if_icmp .lt) 54 51 := ⟨6, by decide +kernel, rfl, rfl⟩
theorem r_10_addOffer_54 : RA M_X10_addOffer 54 0 55 := Or.inl ⟨0, by decide +kernel, rfl, rfl⟩
theorem r_10_addOffer_55 : RG M_X10_addOffer 55 10 2 58 := ⟨13, _, by decide +kernel, rfl, by decide, wd_f10_13, rfl, rfl⟩
theorem r_10_addOffer_58 : RA M_X10_addOffer 58 2 59 := Or.inl ⟨2, by decide +kernel, rfl, rfl⟩
theorem r_10_addOffer_59 : RG M_X10_addOffer 59 3 2 62 := ⟨61, _, by decide +kernel, rfl, by decide, wd_f10_61, rfl, rfl⟩
theorem r_10_addOffer_62 : RW M_X10_addOffer 62 .aaload 63 1 := ⟨by decide +kernel, rfl⟩
theorem r_10_addOffer_63 : RA M_X10_addOffer 63 0 64 := Or.inl ⟨0, by decide +kernel, rfl, rfl⟩
theorem r_10_addOffer_64 : RG M_X10_addOffer 64 10 3 67 := ⟨16, _, by decide +kernel, rfl, by decide, wd_f10_16, rfl, rfl⟩
theorem r_10_addOffer_67 : RA M_X10_addOffer 67 2 68 := Or.inl ⟨2, by decide +kernel, rfl, rfl⟩
theorem r_10_addOffer_68 : RG M_X10_addOffer 68 3 2 71 := ⟨61, _, by decide +kernel, rfl, by decide, wd_f10_61, rfl, rfl⟩
theorem r_10_addOffer_71 : RW M_X10_addOffer 71 .iaload 72 1 := ⟨by decide +kernel, rfl⟩
theorem r_10_addOffer_72 : RL M_X10_addOffer 72 1 73 := Or.inl ⟨1, by decide +kernel, rfl, rfl⟩
theorem r_10_addOffer_73 : RW M_X10_addOffer 73 .iastore 74 1 := ⟨by decide +kernel, rfl⟩
theorem r_10_addOffer_74 : RA M_X10_addOffer 74 0 75 := Or.inl ⟨0, by decide +kernel, rfl, rfl⟩
theorem r_10_addOffer_75 : RG M_X10_addOffer 75 10 3 78 := ⟨16, _, by decide +kernel, rfl, by decide, wd_f10_16, rfl, rfl⟩
theorem r_10_addOffer_78 : RA M_X10_addOffer 78 2 79 := Or.inl ⟨2, by decide +kernel, rfl, rfl⟩
theorem r_10_addOffer_79 : RG M_X10_addOffer 79 3 2 82 := ⟨61, _, by decide +kernel, rfl, by decide, wd_f10_61, rfl, rfl⟩
theorem r_10_addOffer_82 : RW M_X10_addOffer 82 .dup2 83 1 := ⟨by decide +kernel, rfl⟩
theorem r_10_addOffer_83 : RW M_X10_addOffer 83 .iaload 84 1 := ⟨by decide +kernel, rfl⟩
theorem r_10_addOffer_84 : RC M_X10_addOffer 84 1 85 := ⟨⟨by decide, by decide⟩, Or.inl ⟨by decide +kernel, rfl⟩⟩
theorem r_10_addOffer_85 : RW M_X10_addOffer 85 .iadd 86 1 := ⟨by decide +kernel, rfl⟩
theorem r_10_addOffer_86 : RW M_X10_addOffer 86 .iastore 87 1 := ⟨by decide +kernel, rfl⟩
theorem r_10_addOffer_87 : RA M_X10_addOffer 87 0 88 := Or.inl ⟨0, by decide +kernel, rfl, rfl⟩
theorem r_10_addOffer_88 : RG M_X10_addOffer 88 10 3 91 := ⟨16, _, by decide +kernel, rfl, by decide, wd_f10_16, rfl, rfl⟩
theorem r_10_addOffer_91 : RA M_X10_addOffer 91 2 92 := Or.inl ⟨2, by decide +kernel, rfl, rfl⟩
theorem r_10_addOffer_92 : RG M_X10_addOffer 92 3 2 95 := ⟨61, _, by decide +kernel, rfl, by decide, wd_f10_61, rfl, rfl⟩
theorem r_10_addOffer_95 : RW M_X10_addOffer 95 .iaload 96 1 := ⟨by decide +kernel, rfl⟩
theorem r_10_addOffer_96 : RW M_X10_addOffer 96 .ireturn 97 1 := ⟨by decide +kernel, rfl⟩
theorem r_10_addOffer_51 : RC M_X10_addOffer 51 (-2) 53 := ⟨⟨by decide, by decide⟩, Or.inr (Or.inl ⟨by decide +kernel, by decide, rfl⟩)⟩
theorem r_10_addOffer_53 : RW M_X10_addOffer 53 .ireturn 54 1 := ⟨by decide +kernel, rfl⟩
theorem r_10_addOffer_34 : RC M_X10_addOffer 34 (-3) 36 := ⟨⟨by decide, by decide⟩, Or.inr (Or.inl ⟨by decide +kernel, by decide, rfl⟩)⟩
theorem r_10_addOffer_36 : RW M_X10_addOffer 36 .ireturn 37 1 := ⟨by decide +kernel, rfl⟩
theorem r_12_offer_0 : RA M_X12_offer 0 0 1 := Or.inl ⟨0, by decide +kernel, rfl, rfl⟩
theorem r_12_offer_1 : RL M_X12_offer 1 1 2 := Or.inl ⟨1, by decide +kernel, rfl, rfl⟩
theorem r_12_offer_2 : RKv M_X12_offer M_X12_isPerson 2 1 12 5 := ⟨278, by decide +kernel, wd_m12_278, ok_M_X12_isPerson, wd_s12_isPerson, rfl⟩
theorem r_12_offer_5 : RB M_X12_offer 5 (.ifCond .ne) 10 8 := ⟨5, by decide +kernel, rfl, rfl⟩
theorem r_12_offer_10 : RA M_X12_offer 10 0 11 := Or.inl ⟨0, by decide +kernel, rfl, rfl⟩
theorem r_12_offer_11 : RG M_X12_offer 11 12 7 14 := ⟨25, _, by decide +kernel, rfl, by decide, wd_f12_25, rfl, rfl⟩
theorem r_12_offer_14 : RL M_X12_offer 14 1 15 := Or.inl ⟨1, by decide +kernel, rfl, rfl⟩
theorem r_12_offer_15 : RW M_X12_offer 15 .iaload 16 1 := ⟨by decide +kernel, rfl⟩
theorem r_12_offer_16 : RS M_X12_offer 16 2 17 := ⟨by decide, Or.inl ⟨2, by decide +kernel, rfl, rfl⟩⟩
theorem r_12_offer_17 : RC M_X12_offer 17 0 18 := ⟨⟨by decide, by decide⟩, Or.inl ⟨by decide +kernel, rfl⟩⟩
theorem r_12_offer_18 : RS M_X12_offer 18 3 19 := ⟨by decide, Or.inl ⟨3, by decide +kernel, rfl, rfl⟩⟩
theorem r_12_offer_19 : RL M_X12_offer 19 3 20 := Or.inl ⟨3, by decide +kernel, rfl, rfl⟩
theorem r_12_offer_20 : RA M_X12_offer 20 0 21 := Or.inl ⟨0, by decide +kernel, rfl, rfl⟩
theorem r_12_offer_21 : RG M_X12_offer 21 12 61 24 := ⟨144, _, by decide +kernel, rfl, by decide, wd_f12_144, rfl, rfl⟩
theorem r_12_offer_24 : RL M_X12_offer 24 2 25 := Or.inl ⟨2, by decide +kernel, rfl, rfl⟩
theorem r_12_offer_25 : RW M_X12_offer 25 .iaload 26 1 := ⟨by decide +kernel, rfl⟩
theorem r_12_offer_26 : RB M_X12_offer 26 (.if_icmp .ge) 52 29 := ⟨26, by decide +kernel, rfl, rfl⟩
theorem r_12_offer_52 : RA M_X12_offer 52 0 53 := Or.inl ⟨0, by decide +kernel, rfl, rfl⟩
theorem r_12_offer_53 : RG M_X12_offer 53 12 8 56 := ⟨28, _, by decide +kernel, rfl, by decide, wd_f12_28, rfl, rfl⟩
theorem r_12_offer_56 : RL M_X12_offer 56 1 57 := Or.inl ⟨1, by decide +kernel, rfl, rfl⟩
theorem r_12_offer_57 : RW M_X12_offer 57 .iaload 58 1 := ⟨by decide +kernel, rfl⟩
theorem r_12_offer_58 : RB M_X12_offer 58 (.ifCond .eq) 64 61 := ⟨6, by decide +kernel, rfl, rfl⟩
theorem r_12_offer_64 : RA M_X12_offer 64 0 65 := Or.inl ⟨0, by decide +kernel, rfl, rfl⟩
theorem r_12_offer_65 : RG M_X12_offer 65 12 61 68 := ⟨144, _, by decide +kernel, rfl, by decide, wd_f12_144, rfl, rfl⟩
theorem r_12_offer_68 : RL M_X12_offer 68 2 69 := Or.inl ⟨2, by decide +kernel, rfl, rfl⟩
theorem r_12_offer_69 : RW M_X12_offer 69 .iaload 70 1 := ⟨by decide +kernel, rfl⟩
theorem r_12_offer_70 : RC M_X12_offer 70 7 72 := ⟨⟨by decide, by decide⟩, Or.inr (Or.inl ⟨by decide +kernel, by decide, rfl⟩)⟩
theorem r_12_offer_72 : RB M_X12_offer 72 (.if_icmp .ne) 78 75 := ⟨6, by decide +kernel, rfl, rfl⟩
theorem r_12_offer_78 : RA M_X12_offer 78 0 79 := Or.inl ⟨0, by decide +kernel, rfl, rfl⟩
theorem r_12_offer_79 : RG M_X12_offer 79 12 60 82 := ⟨141, _, by decide +kernel, rfl, by decide, wd_f12_141, rfl, rfl⟩
theorem r_12_offer_82 : RC M_X12_offer 82 7 84 := ⟨⟨by decide, by decide⟩, Or.inr (Or.inl ⟨by decide +kernel, by decide, rfl⟩)⟩
theorem r_12_offer_84 : RL M_X12_offer 84 2 85 := Or.inl ⟨2, by decide +kernel, rfl, rfl⟩
theorem r_12_offer_85 : RW M_X12_offer 85 .imul 86 1 := ⟨by decide +kernel, rfl⟩
theorem r_12_offer_86 : RA M_X12_offer 86 0 87 := Or.inl ⟨0, by decide +kernel, rfl, rfl⟩
theorem r_12_offer_87 : RG M_X12_offer 87 12 61 90 := ⟨144, _, by decide +kernel, rfl, by decide, wd_f12_144, rfl, rfl⟩
theorem r_12_offer_90 : RL M_X12_offer 90 2 91 := Or.inl ⟨2, by decide +kernel, rfl, rfl⟩
theorem r_12_offer_91 : RW M_X12_offer 91 .iaload 92 1 := ⟨by decide +kernel, rfl⟩
theorem r_12_offer_92 : RW M_X12_offer 92 .iadd 93 1 := ⟨by decide +kernel, rfl⟩
theorem r_12_offer_93 : RL M_X12_offer 93 1 94 := Or.inl ⟨1, by decide +kernel, rfl, rfl⟩
theorem r_12_offer_94 : RW M_X12_offer 94 .iastore 95 1 := ⟨by decide +kernel, rfl⟩
theorem r_12_offer_95 : RA M_X12_offer 95 0 96 := Or.inl ⟨0, by decide +kernel, rfl, rfl⟩
theorem r_12_offer_96 : RG M_X12_offer 96 12 61 99 := ⟨144, _, by decide +kernel, rfl, by decide, wd_f12_144, rfl, rfl⟩
theorem r_12_offer_99 : RL M_X12_offer 99 2 100 := Or.inl ⟨2, by decide +kernel, rfl, rfl⟩
theorem r_12_offer_100 : RW M_X12_offer 100 .dup2 101 1 := ⟨by decide +kernel, rfl⟩
theorem r_12_offer_101 : RW M_X12_offer 101 .iaload 102 1 := ⟨by decide +kernel, rfl⟩
theorem r_12_offer_102 : RC M_X12_offer 102 1 103 := ⟨⟨by decide, by decide⟩, Or.inl ⟨by decide +kernel, rfl⟩⟩
theorem r_12_offer_103 : RW M_X12_offer 103 .iadd 104 1 := ⟨by decide +kernel, rfl⟩
theorem r_12_offer_104 : RW M_X12_offer 104 .iastore 105 1 := ⟨by decide +kernel, rfl⟩
theorem r_12_offer_105 : RA M_X12_offer 105 0 106 := Or.inl ⟨0, by decide +kernel, rfl, rfl⟩
theorem r_12_offer_106 : RG M_X12_offer 106 12 61 109 := ⟨144, _, by decide +kernel, rfl, by decide, wd_f12_144, rfl, rfl⟩
theorem r_12_offer_109 : RL M_X12_offer 109 2 110 := Or.inl ⟨2, by decide +kernel, rfl, rfl⟩
theorem r_12_offer_110 : RW M_X12_offer 110 .iaload 111 1 := ⟨by decide +kernel, rfl⟩
theorem r_12_offer_111 : RW M_X12_offer 111 .ireturn 112 1 := ⟨by decide +kernel, rfl⟩
theorem r_12_offer_75 : RC M_X12_offer 75 (-2) 77 := ⟨⟨by decide, by decide⟩, Or.inr (Or.inl ⟨by decide +kernel, by decide, rfl⟩)⟩
theorem r_12_offer_77 : RW M_X12_offer 77 .ireturn 78 1 := ⟨by decide +kernel, rfl⟩
theorem r_12_offer_61 : RC M_X12_offer 61 (-3) 63 := ⟨⟨by decide, by decide⟩, Or.inr (Or.inl ⟨by decide +kernel, by decide, rfl⟩)⟩
theorem r_12_offer_63 : RW M_X12_offer 63 .ireturn 64 1 := ⟨by decide +kernel, rfl⟩
theorem r_12_offer_29 : RA M_X12_offer 29 0 30 := Or.inl ⟨0, by decide +kernel, rfl, rfl⟩
theorem r_12_offer_30 : RG M_X12_offer 30 12 60 33 := ⟨141, _, by decide +kernel, rfl, by decide, wd_f12_141, rfl, rfl⟩
theorem r_12_offer_33 : RC M_X12_offer 33 7 35 := ⟨⟨by decide, by decide⟩, Or.inr (Or.inl ⟨by decide +kernel, by decide, rfl⟩)⟩
theorem r_12_offer_35 : RL M_X12_offer 35 2 36 := Or.inl ⟨2, by decide +kernel, rfl, rfl⟩
theorem r_12_offer_36 : RW M_X12_offer 36 .imul 37 1 := ⟨by decide +kernel, rfl⟩
theorem r_12_offer_37 : RL M_X12_offer 37 3 38 := Or.inl ⟨3, by decide +kernel, rfl, rfl⟩
theorem r_12_offer_38 : RW M_X12_offer 38 .iadd 39 1 := ⟨by decide +kernel, rfl⟩
theorem r_12_offer_39 : RW M_X12_offer 39 .iaload 40 1 := ⟨by decide +kernel, rfl⟩
theorem r_12_offer_40 : RL M_X12_offer 40 1 41 := Or.inl ⟨1, by decide +kernel, rfl, rfl⟩
theorem r_12_offer_41 : RB M_X12_offer 41 (.if_icmp .ne) 46 44 := ⟨5, by decide +kernel, rfl, rfl⟩
theorem r_12_offer_46 : RI M_X12_offer 46 3 1 49 := ⟨by decide, by decide +kernel, rfl⟩
theorem r_12_offer_49 : RB M_X12_offer 49 .goto 19 52 := ⟨(-30), by decide +kernel, rfl, rfl⟩
theorem r_12_offer_44 : RC M_X12_offer 44 (-1) 45 := ⟨⟨by decide, by decide⟩, Or.inl ⟨by decide +kernel, rfl⟩⟩
theorem r_12_offer_45 : RW M_X12_offer 45 .ireturn 46 1 := ⟨by decide +kernel, rfl⟩
theorem r_12_offer_8 : RC M_X12_offer 8 (-1) 9 := ⟨⟨by decide, by decide⟩, Or.inl ⟨by decide +kernel, rfl⟩⟩
theorem r_12_offer_9 : RW M_X12_offer 9 .ireturn 10 1 := ⟨by decide +kernel, rfl⟩
theorem r_10_setRatio_0 : RL M_X10_setRatio 0 1 1 := Or.inl ⟨1, by decide +kernel, rfl, rfl⟩
theorem r_10_setRatio_1 : RC M_X10_setRatio 1 1 2 := ⟨⟨by decide, by decide⟩, Or.inl ⟨by decide +kernel, rfl⟩⟩
theorem r_10_setRatio_2 : RC M_X10_setRatio 2 99 4 := ⟨⟨by decide, by decide⟩, Or.inr (Or.inl ⟨by decide +kernel, by decide, rfl⟩)⟩
theorem r_10_setRatio_4 : RKs M_X10_setRatio M_X11_within 4 3 7 := ⟨73, by decide +kernel, Or.inr (by decide +kernel), ok_M_X11_within, rfl⟩
theorem r_10_setRatio_7 : RB M_X10_setRatio 7 (.ifCond .ne) 12 10 := ⟨5, by decide +kernel, rfl, rfl⟩
theorem r_10_setRatio_12 : RA M_X10_setRatio 12 0 13 := Or.inl ⟨0, by decide +kernel, rfl, rfl⟩
theorem r_10_setRatio_13 : RG M_X10_setRatio 13 10 5 16 := ⟨23, _, by decide +kernel, rfl, by decide, wd_f10_23, rfl, rfl⟩
theorem r_10_setRatio_16 : RS M_X10_setRatio 16 2 17 := ⟨by decide, Or.inl ⟨2, by decide +kernel, rfl, rfl⟩⟩
theorem r_10_setRatio_17 : RA M_X10_setRatio 17 0 18 := Or.inl ⟨0, by decide +kernel, rfl, rfl⟩
theorem r_10_setRatio_18 : RL M_X10_setRatio 18 1 19 := Or.inl ⟨1, by decide +kernel, rfl, rfl⟩
theorem r_10_setRatio_19 : RP M_X10_setRatio 19 10 5 22 := ⟨23, _, by decide +kernel, rfl, by decide, wd_f10_23, rfl, Or.inl rfl, rfl⟩
theorem r_10_setRatio_22 : RL M_X10_setRatio 22 2 23 := Or.inl ⟨2, by decide +kernel, rfl, rfl⟩
theorem r_10_setRatio_23 : RW M_X10_setRatio 23 .ireturn 24 1 := ⟨by decide +kernel, rfl⟩
theorem r_10_setRatio_10 : RC M_X10_setRatio 10 (-1) 11 := ⟨⟨by decide, by decide⟩, Or.inl ⟨by decide +kernel, rfl⟩⟩
theorem r_10_setRatio_11 : RW M_X10_setRatio 11 .ireturn 12 1 := ⟨by decide +kernel, rfl⟩
theorem r_12_ratio_0 : RL M_X12_ratio 0 1 1 := Or.inl ⟨1, by decide +kernel, rfl, rfl⟩
theorem r_12_ratio_1 : RC M_X12_ratio 1 1 2 := ⟨⟨by decide, by decide⟩, Or.inl ⟨by decide +kernel, rfl⟩⟩
theorem r_12_ratio_2 : RC M_X12_ratio 2 99 4 := ⟨⟨by decide, by decide⟩, Or.inr (Or.inl ⟨by decide +kernel, by decide, rfl⟩)⟩
theorem r_12_ratio_4 : RKs M_X12_ratio M_X12_within 4 3 7 := ⟨240, by decide +kernel, Or.inl wd_m12_240, ok_M_X12_within, rfl⟩
theorem r_12_ratio_7 : RB M_X12_ratio 7 (.ifCond .ne) 12 10 := ⟨5, by decide +kernel, rfl, rfl⟩
theorem r_12_ratio_12 : RA M_X12_ratio 12 0 13 := Or.inl ⟨0, by decide +kernel, rfl, rfl⟩
theorem r_12_ratio_13 : RG M_X12_ratio 13 12 62 16 := ⟨147, _, by decide +kernel, rfl, by decide, wd_f12_147, rfl, rfl⟩
theorem r_12_ratio_16 : RS M_X12_ratio 16 2 17 := ⟨by decide, Or.inl ⟨2, by decide +kernel, rfl, rfl⟩⟩
theorem r_12_ratio_17 : RA M_X12_ratio 17 0 18 := Or.inl ⟨0, by decide +kernel, rfl, rfl⟩
theorem r_12_ratio_18 : RL M_X12_ratio 18 1 19 := Or.inl ⟨1, by decide +kernel, rfl, rfl⟩
theorem r_12_ratio_19 : RP M_X12_ratio 19 12 62 22 := ⟨147, _, by decide +kernel, rfl, by decide, wd_f12_147, rfl, Or.inl rfl, rfl⟩
theorem r_12_ratio_22 : RL M_X12_ratio 22 2 23 := Or.inl ⟨2, by decide +kernel, rfl, rfl⟩
theorem r_12_ratio_23 : RW M_X12_ratio 23 .ireturn 24 1 := ⟨by decide +kernel, rfl⟩
theorem r_12_ratio_10 : RC M_X12_ratio 10 (-1) 11 := ⟨⟨by decide, by decide⟩, Or.inl ⟨by decide +kernel, rfl⟩⟩
theorem r_12_ratio_11 : RW M_X12_ratio 11 .ireturn 12 1 := ⟨by decide +kernel, rfl⟩
theorem r_10_tellBest_0 : RL M_X10_tellBest 0 1 1 := Or.inl ⟨1, by decide +kernel, rfl, rfl⟩
theorem r_10_tellBest_1 : RKs M_X10_tellBest M_X11_isSide 1 1 4 := ⟨156, by decide +kernel, Or.inr (by decide +kernel), ok_M_X11_isSide, rfl⟩
theorem r_10_tellBest_4 : RB M_X10_tellBest 4 (.ifCond .eq) 16 7 := ⟨12, by decide +kernel, rfl, rfl⟩
theorem r_10_tellBest_16 : RC M_X10_tellBest 16 (-1) 17 := ⟨⟨by decide, by decide⟩, Or.inl ⟨by decide +kernel, rfl⟩⟩
theorem r_10_tellBest_17 : RW M_X10_tellBest 17 .ireturn 18 1 := ⟨by decide +kernel, rfl⟩
theorem r_10_tellBest_7 : RA M_X10_tellBest 7 0 8 := Or.inl ⟨0, by decide +kernel, rfl, rfl⟩
theorem r_10_tellBest_8 : RG M_X10_tellBest 8 10 4 11 := ⟨20, _, by decide +kernel, rfl, by decide, wd_f10_20, rfl, rfl⟩
theorem r_10_tellBest_11 : RL M_X10_tellBest 11 1 12 := Or.inl ⟨1, by decide +kernel, rfl, rfl⟩
theorem r_10_tellBest_12 : RW M_X10_tellBest 12 .iaload 13 1 := ⟨by decide +kernel, rfl⟩
theorem r_10_tellBest_13 : RB M_X10_tellBest 13 .goto 17 16 := ⟨4, by decide +kernel, rfl, rfl⟩
theorem r_12_bestOf_0 : RL M_X12_bestOf 0 1 1 := Or.inl ⟨1, by decide +kernel, rfl, rfl⟩
theorem r_12_bestOf_1 : RKs M_X12_bestOf M_X12_isSide 1 1 4 := ⟨254, by decide +kernel, Or.inl wd_m12_254, ok_M_X12_isSide, rfl⟩
theorem r_12_bestOf_4 : RB M_X12_bestOf 4 (.ifCond .eq) 23 7 := ⟨19, by decide +kernel, rfl, rfl⟩
theorem r_12_bestOf_23 : RC M_X12_bestOf 23 (-1) 24 := ⟨⟨by decide, by decide⟩, Or.inl ⟨by decide +kernel, rfl⟩⟩
theorem r_12_bestOf_24 : RW M_X12_bestOf 24 .ireturn 25 1 := ⟨by decide +kernel, rfl⟩
theorem r_12_bestOf_7 : RA M_X12_bestOf 7 0 8 := Or.inl ⟨0, by decide +kernel, rfl, rfl⟩
theorem r_12_bestOf_8 : RG M_X12_bestOf 8 12 63 11 := ⟨150, _, by decide +kernel, rfl, by decide, wd_f12_150, rfl, rfl⟩
theorem r_12_bestOf_11 : RB M_X12_bestOf 11 (.ifCond .lt) 23 14 := ⟨12, by decide +kernel, rfl, rfl⟩
theorem r_12_bestOf_14 : RA M_X12_bestOf 14 0 15 := Or.inl ⟨0, by decide +kernel, rfl, rfl⟩
theorem r_12_bestOf_15 : RG M_X12_bestOf 15 12 64 18 := ⟨153, _, by decide +kernel, rfl, by decide, wd_f12_153, rfl, rfl⟩
theorem r_12_bestOf_18 : RL M_X12_bestOf 18 1 19 := Or.inl ⟨1, by decide +kernel, rfl, rfl⟩
theorem r_12_bestOf_19 : RW M_X12_bestOf 19 .iaload 20 1 := ⟨by decide +kernel, rfl⟩
theorem r_12_bestOf_20 : RB M_X12_bestOf 20 .goto 24 23 := ⟨4, by decide +kernel, rfl, rfl⟩
theorem r_7_addCamp_0 : RA M_X7_addCamp 0 0 1 := Or.inl ⟨0, by decide +kernel, rfl, rfl⟩
theorem r_7_addCamp_1 : RG M_X7_addCamp 1 7 0 4 := ⟨46, _, by decide +kernel, rfl, by decide, wd_f7_46, rfl, rfl⟩
theorem r_7_addCamp_4 : RL M_X7_addCamp 4 1 5 := Or.inl ⟨1, by decide +kernel, rfl, rfl⟩
theorem r_7_addCamp_5 : RKv M_X7_addCamp M_X2_isCamp 5 1 2 8 := ⟨54, by decide +kernel, wd_m7_54, ok_M_X2_isCamp, wd_s2_isCamp, rfl⟩
theorem r_7_addCamp_8 : RB M_X7_addCamp 8 (.ifCond .eq) 37 11 := ⟨29, by decide +kernel, rfl, rfl⟩
theorem r_7_addCamp_37 : RC M_X7_addCamp 37 (-1) 38 := ⟨⟨by decide, by decide⟩, Or.inl ⟨by decide +kernel, rfl⟩⟩
theorem r_7_addCamp_38 : RW M_X7_addCamp 38 .ireturn 39 1 := ⟨by decide +kernel, rfl⟩
theorem r_7_addCamp_11 : RL M_X7_addCamp 11 2 12 := Or.inl ⟨2, by decide +kernel, rfl, rfl⟩
theorem r_7_addCamp_12 : RC M_X7_addCamp 12 0 13 := ⟨⟨by decide, by decide⟩, Or.inl ⟨by decide +kernel, rfl⟩⟩
theorem r_7_addCamp_13 : RC M_X7_addCamp 13 99 15 := ⟨⟨by decide, by decide⟩, Or.inr (Or.inl ⟨by decide +kernel, by decide, rfl⟩)⟩
theorem r_7_addCamp_15 : RKs M_X7_addCamp M_X11_within 15 3 18 := ⟨60, by decide +kernel, Or.inr (by decide +kernel), ok_M_X11_within, rfl⟩
theorem r_7_addCamp_18 : RB M_X7_addCamp 18 (.ifCond .eq) 37 21 := ⟨19, by decide +kernel, rfl, rfl⟩
theorem r_7_addCamp_21 : RL M_X7_addCamp 21 3 22 := Or.inl ⟨3, by decide +kernel, rfl, rfl⟩
theorem r_7_addCamp_22 : RC M_X7_addCamp 22 0 23 := ⟨⟨by decide, by decide⟩, Or.inl ⟨by decide +kernel, rfl⟩⟩
theorem r_7_addCamp_23 : RC M_X7_addCamp 23 99 25 := ⟨⟨by decide, by decide⟩, Or.inr (Or.inl ⟨by decide +kernel, by decide, rfl⟩)⟩
theorem r_7_addCamp_25 : RKs M_X7_addCamp M_X11_within 25 3 28 := ⟨60, by decide +kernel, Or.inr (by decide +kernel), ok_M_X11_within, rfl⟩
theorem r_7_addCamp_28 : RB M_X7_addCamp 28 (.ifCond .eq) 37 31 := ⟨9, by decide +kernel, rfl, rfl⟩
theorem r_7_addCamp_31 : RL M_X7_addCamp 31 2 32 := Or.inl ⟨2, by decide +kernel, rfl, rfl⟩
theorem r_7_addCamp_32 : RL M_X7_addCamp 32 3 33 := Or.inl ⟨3, by decide +kernel, rfl, rfl⟩
theorem r_7_addCamp_33 : RW M_X7_addCamp 33 .iadd 34 1 := ⟨by decide +kernel, rfl⟩
theorem r_7_addCamp_34 : RB M_X7_addCamp 34 (.ifCond .ne) 39 37 := ⟨5, by decide +kernel, rfl, rfl⟩
theorem r_7_addCamp_39 : RC M_X7_addCamp 39 0 40 := ⟨⟨by decide, by decide⟩, Or.inl ⟨by decide +kernel, rfl⟩⟩
theorem r_7_addCamp_40 : RS M_X7_addCamp 40 4 42 := ⟨by decide, Or.inr ⟨by decide +kernel, rfl⟩⟩
theorem r_7_addCamp_42 : RL M_X7_addCamp 42 4 44 := Or.inr ⟨by decide +kernel, rfl⟩
theorem r_7_addCamp_44 : RA M_X7_addCamp 44 0 45 := Or.inl ⟨0, by decide +kernel, rfl, rfl⟩
theorem r_7_addCamp_45 : RG M_X7_addCamp 45 7 2 48 := ⟨64, _, by decide +kernel, rfl, by decide, wd_f7_64, rfl, rfl⟩
theorem r_7_addCamp_48 : RB M_X7_addCamp 48 (.if_icmp .ge) 70 51 := ⟨22, by decide +kernel, rfl, rfl⟩
theorem r_7_addCamp_70 : RA M_X7_addCamp 70 0 71 := Or.inl ⟨0, by decide +kernel, rfl, rfl⟩
theorem r_7_addCamp_71 : RG M_X7_addCamp 71 7 0 74 := ⟨46, _, by decide +kernel, rfl, by decide, wd_f7_46, rfl, rfl⟩
theorem r_7_addCamp_74 : RL M_X7_addCamp 74 1 75 := Or.inl ⟨1, by decide +kernel, rfl, rfl⟩
theorem r_7_addCamp_75 : RC M_X7_addCamp 75 16 77 := ⟨⟨by decide, by decide⟩, Or.inr (Or.inl ⟨by decide +kernel, by decide, rfl⟩)⟩
theorem r_7_addCamp_77 : RKv M_X7_addCamp M_X2_farFrom 77 2 2 80 := ⟨68, by decide +kernel, wd_m7_68, ok_M_X2_farFrom, wd_s2_farFrom, rfl⟩
theorem r_7_addCamp_80 : RB M_X7_addCamp 80 (.ifCond .ge) 86 83 := ⟨6, by decide +kernel, rfl, rfl⟩
theorem r_7_addCamp_86 : RA M_X7_addCamp 86 0 87 := Or.inl ⟨0, by decide +kernel, rfl, rfl⟩
theorem r_7_addCamp_87 : RG M_X7_addCamp 87 7 2 90 := ⟨64, _, by decide +kernel, rfl, by decide, wd_f7_64, rfl, rfl⟩
theorem r_7_addCamp_90 : RC M_X7_addCamp 90 6 92 := ⟨⟨by decide, by decide⟩, Or.inr (Or.inl ⟨by decide +kernel, by decide, rfl⟩)⟩
theorem r_7_addCamp_92 : RB M_X7_addCamp 92 (.if_icmp .lt) 98 95 := ⟨6, by decide +kernel, rfl, rfl⟩
theorem r_7_addCamp_98 : RA M_X7_addCamp 98 0 99 := Or.inl ⟨0, by decide +kernel, rfl, rfl⟩
theorem r_7_addCamp_99 : RG M_X7_addCamp 99 7 3 102 := ⟨11, _, by decide +kernel, rfl, by decide, wd_f7_11, rfl, rfl⟩
theorem r_7_addCamp_102 : RA M_X7_addCamp 102 0 103 := Or.inl ⟨0, by decide +kernel, rfl, rfl⟩
theorem r_7_addCamp_103 : RG M_X7_addCamp 103 7 2 106 := ⟨64, _, by decide +kernel, rfl, by decide, wd_f7_64, rfl, rfl⟩
theorem r_7_addCamp_106 : RL M_X7_addCamp 106 1 107 := Or.inl ⟨1, by decide +kernel, rfl, rfl⟩
theorem r_7_addCamp_107 : RW M_X7_addCamp 107 .iastore 108 1 := ⟨by decide +kernel, rfl⟩
theorem r_7_addCamp_108 : RA M_X7_addCamp 108 0 109 := Or.inl ⟨0, by decide +kernel, rfl, rfl⟩
theorem r_7_addCamp_109 : RG M_X7_addCamp 109 7 4 112 := ⟨15, _, by decide +kernel, rfl, by decide, wd_f7_15, rfl, rfl⟩
theorem r_7_addCamp_112 : RA M_X7_addCamp 112 0 113 := Or.inl ⟨0, by decide +kernel, rfl, rfl⟩
theorem r_7_addCamp_113 : RG M_X7_addCamp 113 7 2 116 := ⟨64, _, by decide +kernel, rfl, by decide, wd_f7_64, rfl, rfl⟩
theorem r_7_addCamp_116 : RL M_X7_addCamp 116 2 117 := Or.inl ⟨2, by decide +kernel, rfl, rfl⟩
theorem r_7_addCamp_117 : RW M_X7_addCamp 117 .iastore 118 1 := ⟨by decide +kernel, rfl⟩
theorem r_7_addCamp_118 : RA M_X7_addCamp 118 0 119 := Or.inl ⟨0, by decide +kernel, rfl, rfl⟩
theorem r_7_addCamp_119 : RG M_X7_addCamp 119 7 5 122 := ⟨18, _, by decide +kernel, rfl, by decide, wd_f7_18, rfl, rfl⟩
theorem r_7_addCamp_122 : RA M_X7_addCamp 122 0 123 := Or.inl ⟨0, by decide +kernel, rfl, rfl⟩
theorem r_7_addCamp_123 : RG M_X7_addCamp 123 7 2 126 := ⟨64, _, by decide +kernel, rfl, by decide, wd_f7_64, rfl, rfl⟩
theorem r_7_addCamp_126 : RL M_X7_addCamp 126 3 127 := Or.inl ⟨3, by decide +kernel, rfl, rfl⟩
theorem r_7_addCamp_127 : RW M_X7_addCamp 127 .iastore 128 1 := ⟨by decide +kernel, rfl⟩
theorem r_7_addCamp_128 : RA M_X7_addCamp 128 0 129 := Or.inl ⟨0, by decide +kernel, rfl, rfl⟩
theorem r_7_addCamp_129 : RW M_X7_addCamp 129 .dup 130 1 := ⟨by decide +kernel, rfl⟩
theorem r_7_addCamp_130 : RG M_X7_addCamp 130 7 2 133 := ⟨64, _, by decide +kernel, rfl, by decide, wd_f7_64, rfl, rfl⟩
theorem r_7_addCamp_133 : RC M_X7_addCamp 133 1 134 := ⟨⟨by decide, by decide⟩, Or.inl ⟨by decide +kernel, rfl⟩⟩
theorem r_7_addCamp_134 : RW M_X7_addCamp 134 .iadd 135 1 := ⟨by decide +kernel, rfl⟩
theorem r_7_addCamp_135 : RP M_X7_addCamp 135 7 2 138 := ⟨64, _, by decide +kernel, rfl, by decide, wd_f7_64, rfl, Or.inl rfl, rfl⟩
theorem r_7_addCamp_138 : RA M_X7_addCamp 138 0 139 := Or.inl ⟨0, by decide +kernel, rfl, rfl⟩
theorem r_7_addCamp_139 : RG M_X7_addCamp 139 7 2 142 := ⟨64, _, by decide +kernel, rfl, by decide, wd_f7_64, rfl, rfl⟩
theorem r_7_addCamp_142 : RW M_X7_addCamp 142 .ireturn 143 1 := ⟨by decide +kernel, rfl⟩
theorem r_7_addCamp_95 : RC M_X7_addCamp 95 (-2) 97 := ⟨⟨by decide, by decide⟩, Or.inr (Or.inl ⟨by decide +kernel, by decide, rfl⟩)⟩
theorem r_7_addCamp_97 : RW M_X7_addCamp 97 .ireturn 98 1 := ⟨by decide +kernel, rfl⟩
theorem r_7_addCamp_83 : RC M_X7_addCamp 83 (-4) 85 := ⟨⟨by decide, by decide⟩, Or.inr (Or.inl ⟨by decide +kernel, by decide, rfl⟩)⟩
theorem r_7_addCamp_85 : RW M_X7_addCamp 85 .ireturn 86 1 := ⟨by decide +kernel, rfl⟩
theorem r_7_addCamp_51 : RA M_X7_addCamp 51 0 52 := Or.inl ⟨0, by decide +kernel, rfl, rfl⟩
theorem r_7_addCamp_52 : RG M_X7_addCamp 52 7 3 55 := ⟨11, _, by decide +kernel, rfl, by decide, wd_f7_11, rfl, rfl⟩
theorem r_7_addCamp_55 : RL M_X7_addCamp 55 4 57 := Or.inr ⟨by decide +kernel, rfl⟩
theorem r_7_addCamp_57 : RW M_X7_addCamp 57 .iaload 58 1 := ⟨by decide +kernel, rfl⟩
theorem r_7_addCamp_58 : RL M_X7_addCamp 58 1 59 := Or.inl ⟨1, by decide +kernel, rfl, rfl⟩
theorem r_7_addCamp_59 : RB M_X7_addCamp 59 (.if_icmp .ne) 64 62 := ⟨5, by decide +kernel, rfl, rfl⟩
theorem r_7_addCamp_64 : RI M_X7_addCamp 64 4 1 67 := ⟨by decide, by decide +kernel, rfl⟩
theorem r_7_addCamp_67 : RB M_X7_addCamp 67 .goto 42 70 := ⟨(-25), by decide +kernel, rfl, rfl⟩
theorem r_7_addCamp_62 : RC M_X7_addCamp 62 (-1) 63 := ⟨⟨by decide, by decide⟩, Or.inl ⟨by decide +kernel, rfl⟩⟩
theorem r_7_addCamp_63 : RW M_X7_addCamp 63 .ireturn 64 1 := ⟨by decide +kernel, rfl⟩
theorem r_12_load_0 : RA M_X12_load 0 0 1 := Or.inl ⟨0, by decide +kernel, rfl, rfl⟩
theorem r_12_load_1 : RL M_X12_load 1 1 2 := Or.inl ⟨1, by decide +kernel, rfl, rfl⟩
theorem r_12_load_2 : RKv M_X12_load M_X12_isCamp 2 1 12 5 := ⟨247, by decide +kernel, wd_m12_247, ok_M_X12_isCamp, wd_s12_isCamp, rfl⟩
theorem r_12_load_5 : RB M_X12_load 5 (.ifCond .eq) 34 8 := ⟨29, by decide +kernel, rfl, rfl⟩
theorem r_12_load_34 : RC M_X12_load 34 (-1) 35 := ⟨⟨by decide, by decide⟩, Or.inl ⟨by decide +kernel, rfl⟩⟩
theorem r_12_load_35 : RW M_X12_load 35 .ireturn 36 1 := ⟨by decide +kernel, rfl⟩
theorem r_12_load_8 : RL M_X12_load 8 2 9 := Or.inl ⟨2, by decide +kernel, rfl, rfl⟩
theorem r_12_load_9 : RC M_X12_load 9 0 10 := ⟨⟨by decide, by decide⟩, Or.inl ⟨by decide +kernel, rfl⟩⟩
theorem r_12_load_10 : RC M_X12_load 10 99 12 := ⟨⟨by decide, by decide⟩, Or.inr (Or.inl ⟨by decide +kernel, by decide, rfl⟩)⟩
theorem r_12_load_12 : RKs M_X12_load M_X12_within 12 3 15 := ⟨240, by decide +kernel, Or.inl wd_m12_240, ok_M_X12_within, rfl⟩
theorem r_12_load_15 : RB M_X12_load 15 (.ifCond .eq) 34 18 := ⟨19, by decide +kernel, rfl, rfl⟩
theorem r_12_load_18 : RL M_X12_load 18 3 19 := Or.inl ⟨3, by decide +kernel, rfl, rfl⟩
theorem r_12_load_19 : RC M_X12_load 19 0 20 := ⟨⟨by decide, by decide⟩, Or.inl ⟨by decide +kernel, rfl⟩⟩
theorem r_12_load_20 : RC M_X12_load 20 99 22 := ⟨⟨by decide, by decide⟩, Or.inr (Or.inl ⟨by decide +kernel, by decide, rfl⟩)⟩
theorem r_12_load_22 : RKs M_X12_load M_X12_within 22 3 25 := ⟨240, by decide +kernel, Or.inl wd_m12_240, ok_M_X12_within, rfl⟩
theorem r_12_load_25 : RB M_X12_load 25 (.ifCond .eq) 34 28 := ⟨9, by decide +kernel, rfl, rfl⟩
theorem r_12_load_28 : RL M_X12_load 28 2 29 := Or.inl ⟨2, by decide +kernel, rfl, rfl⟩
theorem r_12_load_29 : RL M_X12_load 29 3 30 := Or.inl ⟨3, by decide +kernel, rfl, rfl⟩
theorem r_12_load_30 : RW M_X12_load 30 .iadd 31 1 := ⟨by decide +kernel, rfl⟩
theorem r_12_load_31 : RB M_X12_load 31 (.ifCond .ne) 36 34 := ⟨5, by decide +kernel, rfl, rfl⟩
theorem r_12_load_36 : RC M_X12_load 36 0 37 := ⟨⟨by decide, by decide⟩, Or.inl ⟨by decide +kernel, rfl⟩⟩
theorem r_12_load_37 : RS M_X12_load 37 4 39 := ⟨by decide, Or.inr ⟨by decide +kernel, rfl⟩⟩
theorem r_12_load_39 : RL M_X12_load 39 4 41 := Or.inr ⟨by decide +kernel, rfl⟩
theorem r_12_load_41 : RA M_X12_load 41 0 42 := Or.inl ⟨0, by decide +kernel, rfl, rfl⟩
theorem r_12_load_42 : RG M_X12_load 42 12 71 45 := ⟨452, _, by decide +kernel, rfl, by decide, wd_f12_452, rfl, rfl⟩
theorem r_12_load_45 : RB M_X12_load 45 (.if_icmp .ge) 67 48 := ⟨22, by decide +kernel, rfl, rfl⟩
theorem r_12_load_67 : RA M_X12_load 67 0 68 := Or.inl ⟨0, by decide +kernel, rfl, rfl⟩
theorem r_12_load_68 : RL M_X12_load 68 1 69 := Or.inl ⟨1, by decide +kernel, rfl, rfl⟩
theorem r_12_load_69 : RC M_X12_load 69 16 71 := ⟨⟨by decide, by decide⟩, Or.inr (Or.inl ⟨by decide +kernel, by decide, rfl⟩)⟩
theorem r_12_load_71 : RKv M_X12_load M_X12_farOf 71 2 12 74 := ⟨261, by decide +kernel, wd_m12_261, ok_M_X12_farOf, wd_s12_farOf, rfl⟩
theorem r_12_load_74 : RC M_X12_load 74 100000 77 := ⟨⟨by decide, by decide⟩, Or.inr (Or.inr (Or.inr (Or.inr ⟨260, by decide +kernel, wd_c12_260, rfl⟩)))⟩
theorem r_12_load_77 : RB M_X12_load 77 (.if_icmp .lt) 83 80 := ⟨6, by decide +kernel, rfl, rfl⟩
theorem r_12_load_83 : RA M_X12_load 83 0 84 := Or.inl ⟨0, by decide +kernel, rfl, rfl⟩
theorem r_12_load_84 : RG M_X12_load 84 12 71 87 := ⟨452, _, by decide +kernel, rfl, by decide, wd_f12_452, rfl, rfl⟩
theorem r_12_load_87 : RC M_X12_load 87 6 89 := ⟨⟨by decide, by decide⟩, Or.inr (Or.inl ⟨by decide +kernel, by decide, rfl⟩)⟩
theorem r_12_load_89 : RB M_X12_load 89 (.if_icmp .ne) 95 92 := ⟨6, by decide +kernel, rfl, rfl⟩
theorem r_12_load_95 : RA M_X12_load 95 0 96 := Or.inl ⟨0, by decide +kernel, rfl, rfl⟩
theorem r_12_load_96 : RG M_X12_load 96 12 68 99 := ⟨165, _, by decide +kernel, rfl, by decide, wd_f12_165, rfl, rfl⟩
theorem r_12_load_99 : RA M_X12_load 99 0 100 := Or.inl ⟨0, by decide +kernel, rfl, rfl⟩
theorem r_12_load_100 : RG M_X12_load 100 12 71 103 := ⟨452, _, by decide +kernel, rfl, by decide, wd_f12_452, rfl, rfl⟩
theorem r_12_load_103 : RL M_X12_load 103 1 104 := Or.inl ⟨1, by decide +kernel, rfl, rfl⟩
theorem r_12_load_104 : RW M_X12_load 104 .iastore 105 1 := ⟨by decide +kernel, rfl⟩
theorem r_12_load_105 : RA M_X12_load 105 0 106 := Or.inl ⟨0, by decide +kernel, rfl, rfl⟩
theorem r_12_load_106 : RG M_X12_load 106 12 69 109 := ⟨168, _, by decide +kernel, rfl, by decide, wd_f12_168, rfl, rfl⟩
theorem r_12_load_109 : RA M_X12_load 109 0 110 := Or.inl ⟨0, by decide +kernel, rfl, rfl⟩
theorem r_12_load_110 : RG M_X12_load 110 12 71 113 := ⟨452, _, by decide +kernel, rfl, by decide, wd_f12_452, rfl, rfl⟩
theorem r_12_load_113 : RL M_X12_load 113 2 114 := Or.inl ⟨2, by decide +kernel, rfl, rfl⟩
theorem r_12_load_114 : RW M_X12_load 114 .iastore 115 1 := ⟨by decide +kernel, rfl⟩
theorem r_12_load_115 : RA M_X12_load 115 0 116 := Or.inl ⟨0, by decide +kernel, rfl, rfl⟩
theorem r_12_load_116 : RG M_X12_load 116 12 70 119 := ⟨171, _, by decide +kernel, rfl, by decide, wd_f12_171, rfl, rfl⟩
theorem r_12_load_119 : RA M_X12_load 119 0 120 := Or.inl ⟨0, by decide +kernel, rfl, rfl⟩
theorem r_12_load_120 : RG M_X12_load 120 12 71 123 := ⟨452, _, by decide +kernel, rfl, by decide, wd_f12_452, rfl, rfl⟩
theorem r_12_load_123 : RL M_X12_load 123 3 124 := Or.inl ⟨3, by decide +kernel, rfl, rfl⟩
theorem r_12_load_124 : RW M_X12_load 124 .iastore 125 1 := ⟨by decide +kernel, rfl⟩
theorem r_12_load_125 : RA M_X12_load 125 0 126 := Or.inl ⟨0, by decide +kernel, rfl, rfl⟩
theorem r_12_load_126 : RW M_X12_load 126 .dup 127 1 := ⟨by decide +kernel, rfl⟩
theorem r_12_load_127 : RG M_X12_load 127 12 71 130 := ⟨452, _, by decide +kernel, rfl, by decide, wd_f12_452, rfl, rfl⟩
theorem r_12_load_130 : RC M_X12_load 130 1 131 := ⟨⟨by decide, by decide⟩, Or.inl ⟨by decide +kernel, rfl⟩⟩
theorem r_12_load_131 : RW M_X12_load 131 .iadd 132 1 := ⟨by decide +kernel, rfl⟩
theorem r_12_load_132 : RP M_X12_load 132 12 71 135 := ⟨452, _, by decide +kernel, rfl, by decide, wd_f12_452, rfl, Or.inl rfl, rfl⟩
theorem r_12_load_135 : RA M_X12_load 135 0 136 := Or.inl ⟨0, by decide +kernel, rfl, rfl⟩
theorem r_12_load_136 : RG M_X12_load 136 12 71 139 := ⟨452, _, by decide +kernel, rfl, by decide, wd_f12_452, rfl, rfl⟩
theorem r_12_load_139 : RW M_X12_load 139 .ireturn 140 1 := ⟨by decide +kernel, rfl⟩
theorem r_12_load_92 : RC M_X12_load 92 (-2) 94 := ⟨⟨by decide, by decide⟩, Or.inr (Or.inl ⟨by decide +kernel, by decide, rfl⟩)⟩
theorem r_12_load_94 : RW M_X12_load 94 .ireturn 95 1 := ⟨by decide +kernel, rfl⟩
theorem r_12_load_80 : RC M_X12_load 80 (-4) 82 := ⟨⟨by decide, by decide⟩, Or.inr (Or.inl ⟨by decide +kernel, by decide, rfl⟩)⟩
theorem r_12_load_82 : RW M_X12_load 82 .ireturn 83 1 := ⟨by decide +kernel, rfl⟩
theorem r_12_load_48 : RA M_X12_load 48 0 49 := Or.inl ⟨0, by decide +kernel, rfl, rfl⟩
theorem r_12_load_49 : RG M_X12_load 49 12 68 52 := ⟨165, _, by decide +kernel, rfl, by decide, wd_f12_165, rfl, rfl⟩
theorem r_12_load_52 : RL M_X12_load 52 4 54 := Or.inr ⟨by decide +kernel, rfl⟩
theorem r_12_load_54 : RW M_X12_load 54 .iaload 55 1 := ⟨by decide +kernel, rfl⟩
theorem r_12_load_55 : RL M_X12_load 55 1 56 := Or.inl ⟨1, by decide +kernel, rfl, rfl⟩
theorem r_12_load_56 : RB M_X12_load 56 (.if_icmp .ne) 61 59 := ⟨5, by decide +kernel, rfl, rfl⟩
theorem r_12_load_61 : RI M_X12_load 61 4 1 64 := ⟨by decide, by decide +kernel, rfl⟩
theorem r_12_load_64 : RB M_X12_load 64 .goto 39 67 := ⟨(-25), by decide +kernel, rfl, rfl⟩
theorem r_12_load_59 : RC M_X12_load 59 (-1) 60 := ⟨⟨by decide, by decide⟩, Or.inl ⟨by decide +kernel, rfl⟩⟩
theorem r_12_load_60 : RW M_X12_load 60 .ireturn 61 1 := ⟨by decide +kernel, rfl⟩
theorem r_7_tellVoyage_0 : RL M_X7_tellVoyage 0 1 1 := Or.inl ⟨1, by decide +kernel, rfl, rfl⟩
theorem r_7_tellVoyage_1 : RB M_X7_tellVoyage 1 (.ifCond .lt) 21 4 := ⟨20, by decide +kernel, rfl, rfl⟩
theorem r_7_tellVoyage_21 : RC M_X7_tellVoyage 21 (-1) 22 := ⟨⟨by decide, by decide⟩, Or.inl ⟨by decide +kernel, rfl⟩⟩
theorem r_7_tellVoyage_22 : RW M_X7_tellVoyage 22 .ireturn 23 1 := ⟨by decide +kernel, rfl⟩
theorem r_7_tellVoyage_4 : RL M_X7_tellVoyage 4 1 5 := Or.inl ⟨1, by decide +kernel, rfl, rfl⟩
theorem r_7_tellVoyage_5 : RA M_X7_tellVoyage 5 0 6 := Or.inl ⟨0, by decide +kernel, rfl, rfl⟩
theorem r_7_tellVoyage_6 : RG M_X7_tellVoyage 6 7 16 9 := ⟨104, _, by decide +kernel, rfl, by decide, wd_f7_104, rfl, rfl⟩
theorem r_7_tellVoyage_9 : RB M_X7_tellVoyage 9 (.if_icmp .ge) 21 12 := ⟨12, by decide +kernel, rfl, rfl⟩
theorem r_7_tellVoyage_12 : RL M_X7_tellVoyage 12 2 13 := Or.inl ⟨2, by decide +kernel, rfl, rfl⟩
theorem r_7_tellVoyage_13 : RC M_X7_tellVoyage 13 0 14 := ⟨⟨by decide, by decide⟩, Or.inl ⟨by decide +kernel, rfl⟩⟩
theorem r_7_tellVoyage_14 : RC M_X7_tellVoyage 14 1 15 := ⟨⟨by decide, by decide⟩, Or.inl ⟨by decide +kernel, rfl⟩⟩
theorem r_7_tellVoyage_15 : RKs M_X7_tellVoyage M_X11_within 15 3 18 := ⟨60, by decide +kernel, Or.inr (by decide +kernel), ok_M_X11_within, rfl⟩
theorem r_7_tellVoyage_18 : RB M_X7_tellVoyage 18 (.ifCond .ne) 23 21 := ⟨5, by decide +kernel, rfl, rfl⟩
theorem r_7_tellVoyage_23 : RL M_X7_tellVoyage 23 2 24 := Or.inl ⟨2, by decide +kernel, rfl, rfl⟩
theorem r_7_tellVoyage_24 : RB M_X7_tellVoyage 24 (.ifCond .ne) 36 27 := ⟨12, by decide +kernel, rfl, rfl⟩
theorem r_7_tellVoyage_36 : RA M_X7_tellVoyage 36 0 37 := Or.inl ⟨0, by decide +kernel, rfl, rfl⟩
theorem r_7_tellVoyage_37 : RG M_X7_tellVoyage 37 7 15 40 := ⟨43, _, by decide +kernel, rfl, by decide, wd_f7_43, rfl, rfl⟩
theorem r_7_tellVoyage_40 : RL M_X7_tellVoyage 40 1 41 := Or.inl ⟨1, by decide +kernel, rfl, rfl⟩
theorem r_7_tellVoyage_41 : RW M_X7_tellVoyage 41 .iaload 42 1 := ⟨by decide +kernel, rfl⟩
theorem r_7_tellVoyage_42 : RW M_X7_tellVoyage 42 .ireturn 43 1 := ⟨by decide +kernel, rfl⟩
theorem r_7_tellVoyage_27 : RA M_X7_tellVoyage 27 0 28 := Or.inl ⟨0, by decide +kernel, rfl, rfl⟩
theorem r_7_tellVoyage_28 : RG M_X7_tellVoyage 28 7 14 31 := ⟨40, _, by decide +kernel, rfl, by decide, wd_f7_40, rfl, rfl⟩
theorem r_7_tellVoyage_31 : RL M_X7_tellVoyage 31 1 32 := Or.inl ⟨1, by decide +kernel, rfl, rfl⟩
theorem r_7_tellVoyage_32 : RW M_X7_tellVoyage 32 .iaload 33 1 := ⟨by decide +kernel, rfl⟩
theorem r_7_tellVoyage_33 : RB M_X7_tellVoyage 33 .goto 42 36 := ⟨9, by decide +kernel, rfl, rfl⟩
theorem r_12_voyage_0 : RL M_X12_voyage 0 1 1 := Or.inl ⟨1, by decide +kernel, rfl, rfl⟩
theorem r_12_voyage_1 : RB M_X12_voyage 1 (.ifCond .lt) 21 4 := ⟨20, by decide +kernel, rfl, rfl⟩
theorem r_12_voyage_21 : RC M_X12_voyage 21 (-1) 22 := ⟨⟨by decide, by decide⟩, Or.inl ⟨by decide +kernel, rfl⟩⟩
theorem r_12_voyage_22 : RW M_X12_voyage 22 .ireturn 23 1 := ⟨by decide +kernel, rfl⟩
theorem r_12_voyage_4 : RL M_X12_voyage 4 1 5 := Or.inl ⟨1, by decide +kernel, rfl, rfl⟩
theorem r_12_voyage_5 : RA M_X12_voyage 5 0 6 := Or.inl ⟨0, by decide +kernel, rfl, rfl⟩
theorem r_12_voyage_6 : RG M_X12_voyage 6 12 77 9 := ⟨458, _, by decide +kernel, rfl, by decide, wd_f12_458, rfl, rfl⟩
theorem r_12_voyage_9 : RB M_X12_voyage 9 (.if_icmp .ge) 21 12 := ⟨12, by decide +kernel, rfl, rfl⟩
theorem r_12_voyage_12 : RL M_X12_voyage 12 2 13 := Or.inl ⟨2, by decide +kernel, rfl, rfl⟩
theorem r_12_voyage_13 : RC M_X12_voyage 13 0 14 := ⟨⟨by decide, by decide⟩, Or.inl ⟨by decide +kernel, rfl⟩⟩
theorem r_12_voyage_14 : RC M_X12_voyage 14 1 15 := ⟨⟨by decide, by decide⟩, Or.inl ⟨by decide +kernel, rfl⟩⟩
theorem r_12_voyage_15 : RKs M_X12_voyage M_X12_within 15 3 18 := ⟨240, by decide +kernel, Or.inl wd_m12_240, ok_M_X12_within, rfl⟩
theorem r_12_voyage_18 : RB M_X12_voyage 18 (.ifCond .ne) 23 21 := ⟨5, by decide +kernel, rfl, rfl⟩
theorem r_12_voyage_23 : RL M_X12_voyage 23 2 24 := Or.inl ⟨2, by decide +kernel, rfl, rfl⟩
theorem r_12_voyage_24 : RB M_X12_voyage 24 (.ifCond .ne) 36 27 := ⟨12, by decide +kernel, rfl, rfl⟩
theorem r_12_voyage_36 : RA M_X12_voyage 36 0 37 := Or.inl ⟨0, by decide +kernel, rfl, rfl⟩
theorem r_12_voyage_37 : RG M_X12_voyage 37 12 76 40 := ⟨186, _, by decide +kernel, rfl, by decide, wd_f12_186, rfl, rfl⟩
theorem r_12_voyage_40 : RL M_X12_voyage 40 1 41 := Or.inl ⟨1, by decide +kernel, rfl, rfl⟩
theorem r_12_voyage_41 : RW M_X12_voyage 41 .iaload 42 1 := ⟨by decide +kernel, rfl⟩
theorem r_12_voyage_42 : RW M_X12_voyage 42 .ireturn 43 1 := ⟨by decide +kernel, rfl⟩
theorem r_12_voyage_27 : RA M_X12_voyage 27 0 28 := Or.inl ⟨0, by decide +kernel, rfl, rfl⟩
theorem r_12_voyage_28 : RG M_X12_voyage 28 12 75 31 := ⟨183, _, by decide +kernel, rfl, by decide, wd_f12_183, rfl, rfl⟩
theorem r_12_voyage_31 : RL M_X12_voyage 31 1 32 := Or.inl ⟨1, by decide +kernel, rfl, rfl⟩
theorem r_12_voyage_32 : RW M_X12_voyage 32 .iaload 33 1 := ⟨by decide +kernel, rfl⟩
theorem r_12_voyage_33 : RB M_X12_voyage 33 .goto 42 36 := ⟨9, by decide +kernel, rfl, rfl⟩
theorem r_0_addWalker_0 : RL M_X0_addWalker 0 1 1 := Or.inl ⟨1, by decide +kernel, rfl, rfl⟩
theorem r_0_addWalker_1 : RC M_X0_addWalker 1 0 2 := ⟨⟨by decide, by decide⟩, Or.inl ⟨by decide +kernel, rfl⟩⟩
theorem r_0_addWalker_2 : RC M_X0_addWalker 2 1 3 := ⟨⟨by decide, by decide⟩, Or.inl ⟨by decide +kernel, rfl⟩⟩
theorem r_0_addWalker_3 : RKs M_X0_addWalker M_X11_within 3 3 6 := ⟨38, by decide +kernel, Or.inr (by decide +kernel), ok_M_X11_within, rfl⟩
theorem r_0_addWalker_6 : RB M_X0_addWalker 6 (.ifCond .eq) 19 9 := ⟨13, by decide +kernel, rfl, rfl⟩
theorem r_0_addWalker_19 : RC M_X0_addWalker 19 (-1) 20 := ⟨⟨by decide, by decide⟩, Or.inl ⟨by decide +kernel, rfl⟩⟩
theorem r_0_addWalker_20 : RW M_X0_addWalker 20 .ireturn 21 1 := ⟨by decide +kernel, rfl⟩
theorem r_0_addWalker_9 : RL M_X0_addWalker 9 2 10 := Or.inl ⟨2, by decide +kernel, rfl, rfl⟩
theorem r_0_addWalker_10 : RC M_X0_addWalker 10 1 11 := ⟨⟨by decide, by decide⟩, Or.inl ⟨by decide +kernel, rfl⟩⟩
theorem r_0_addWalker_11 : RC M_X0_addWalker 11 9 13 := ⟨⟨by decide, by decide⟩, Or.inr (Or.inl ⟨by decide +kernel, by decide, rfl⟩)⟩
theorem r_0_addWalker_13 : RKs M_X0_addWalker M_X11_within 13 3 16 := ⟨38, by decide +kernel, Or.inr (by decide +kernel), ok_M_X11_within, rfl⟩
theorem r_0_addWalker_16 : RB M_X0_addWalker 16 (.ifCond .ne) 21 19 := ⟨5, by decide +kernel, rfl, rfl⟩
theorem r_0_addWalker_21 : RA M_X0_addWalker 21 0 22 := Or.inl ⟨0, by decide +kernel, rfl, rfl⟩
theorem r_0_addWalker_22 : RG M_X0_addWalker 22 0 1 25 := ⟨16, _, by decide +kernel, rfl, by decide, wd_f0_16, rfl, rfl⟩
theorem r_0_addWalker_25 : RL M_X0_addWalker 25 1 26 := Or.inl ⟨1, by decide +kernel, rfl, rfl⟩
theorem r_0_addWalker_26 : RW M_X0_addWalker 26 .iaload 27 1 := ⟨by decide +kernel, rfl⟩
theorem r_0_addWalker_27 : RC M_X0_addWalker 27 10 29 := ⟨⟨by decide, by decide⟩, Or.inr (Or.inl ⟨by decide +kernel, by decide, rfl⟩)⟩
theorem r_0_addWalker_29 : RB M_X0_addWalker 29 (.if_icmp .lt) 35 32 := ⟨6, by decide +kernel, rfl, rfl⟩
theorem r_0_addWalker_35 : RA M_X0_addWalker 35 0 36 := Or.inl ⟨0, by decide +kernel, rfl, rfl⟩
theorem r_0_addWalker_36 : RG M_X0_addWalker 36 0 0 39 := ⟨13, _, by decide +kernel, rfl, by decide, wd_f0_13, rfl, rfl⟩
theorem r_0_addWalker_39 : RL M_X0_addWalker 39 1 40 := Or.inl ⟨1, by decide +kernel, rfl, rfl⟩
theorem r_0_addWalker_40 : RW M_X0_addWalker 40 .aaload 41 1 := ⟨by decide +kernel, rfl⟩
theorem r_0_addWalker_41 : RA M_X0_addWalker 41 0 42 := Or.inl ⟨0, by decide +kernel, rfl, rfl⟩
theorem r_0_addWalker_42 : RG M_X0_addWalker 42 0 1 45 := ⟨16, _, by decide +kernel, rfl, by decide, wd_f0_16, rfl, rfl⟩
theorem r_0_addWalker_45 : RL M_X0_addWalker 45 1 46 := Or.inl ⟨1, by decide +kernel, rfl, rfl⟩
theorem r_0_addWalker_46 : RW M_X0_addWalker 46 .iaload 47 1 := ⟨by decide +kernel, rfl⟩
theorem r_0_addWalker_47 : RL M_X0_addWalker 47 2 48 := Or.inl ⟨2, by decide +kernel, rfl, rfl⟩
theorem r_0_addWalker_48 : RW M_X0_addWalker 48 .iastore 49 1 := ⟨by decide +kernel, rfl⟩
theorem r_0_addWalker_49 : RA M_X0_addWalker 49 0 50 := Or.inl ⟨0, by decide +kernel, rfl, rfl⟩
theorem r_0_addWalker_50 : RG M_X0_addWalker 50 0 1 53 := ⟨16, _, by decide +kernel, rfl, by decide, wd_f0_16, rfl, rfl⟩
theorem r_0_addWalker_53 : RL M_X0_addWalker 53 1 54 := Or.inl ⟨1, by decide +kernel, rfl, rfl⟩
theorem r_0_addWalker_54 : RW M_X0_addWalker 54 .dup2 55 1 := ⟨by decide +kernel, rfl⟩
theorem r_0_addWalker_55 : RW M_X0_addWalker 55 .iaload 56 1 := ⟨by decide +kernel, rfl⟩
theorem r_0_addWalker_56 : RC M_X0_addWalker 56 1 57 := ⟨⟨by decide, by decide⟩, Or.inl ⟨by decide +kernel, rfl⟩⟩
theorem r_0_addWalker_57 : RW M_X0_addWalker 57 .iadd 58 1 := ⟨by decide +kernel, rfl⟩
theorem r_0_addWalker_58 : RW M_X0_addWalker 58 .iastore 59 1 := ⟨by decide +kernel, rfl⟩
theorem r_0_addWalker_59 : RA M_X0_addWalker 59 0 60 := Or.inl ⟨0, by decide +kernel, rfl, rfl⟩
theorem r_0_addWalker_60 : RG M_X0_addWalker 60 0 1 63 := ⟨16, _, by decide +kernel, rfl, by decide, wd_f0_16, rfl, rfl⟩
theorem r_0_addWalker_63 : RL M_X0_addWalker 63 1 64 := Or.inl ⟨1, by decide +kernel, rfl, rfl⟩
theorem r_0_addWalker_64 : RW M_X0_addWalker 64 .iaload 65 1 := ⟨by decide +kernel, rfl⟩
theorem r_0_addWalker_65 : RW M_X0_addWalker 65 .ireturn 66 1 := ⟨by decide +kernel, rfl⟩
theorem r_0_addWalker_32 : RC M_X0_addWalker 32 (-2) 34 := ⟨⟨by decide, by decide⟩, Or.inr (Or.inl ⟨by decide +kernel, by decide, rfl⟩)⟩
theorem r_0_addWalker_34 : RW M_X0_addWalker 34 .ireturn 35 1 := ⟨by decide +kernel, rfl⟩
theorem r_12_walker_0 : RL M_X12_walker 0 1 1 := Or.inl ⟨1, by decide +kernel, rfl, rfl⟩
theorem r_12_walker_1 : RKs M_X12_walker M_X12_isSide 1 1 4 := ⟨254, by decide +kernel, Or.inl wd_m12_254, ok_M_X12_isSide, rfl⟩
theorem r_12_walker_4 : RB M_X12_walker 4 (.ifCond .eq) 17 7 := ⟨13, by decide +kernel, rfl, rfl⟩
theorem r_12_walker_17 : RC M_X12_walker 17 (-1) 18 := ⟨⟨by decide, by decide⟩, Or.inl ⟨by decide +kernel, rfl⟩⟩
theorem r_12_walker_18 : RW M_X12_walker 18 .ireturn 19 1 := ⟨by decide +kernel, rfl⟩
theorem r_12_walker_7 : RL M_X12_walker 7 2 8 := Or.inl ⟨2, by decide +kernel, rfl, rfl⟩
theorem r_12_walker_8 : RC M_X12_walker 8 1 9 := ⟨⟨by decide, by decide⟩, Or.inl ⟨by decide +kernel, rfl⟩⟩
theorem r_12_walker_9 : RC M_X12_walker 9 9 11 := ⟨⟨by decide, by decide⟩, Or.inr (Or.inl ⟨by decide +kernel, by decide, rfl⟩)⟩
theorem r_12_walker_11 : RKs M_X12_walker M_X12_within 11 3 14 := ⟨240, by decide +kernel, Or.inl wd_m12_240, ok_M_X12_within, rfl⟩
theorem r_12_walker_14 : RB M_X12_walker 14 (.ifCond .ne) 19 17 := ⟨5, by decide +kernel, rfl, rfl⟩
theorem r_12_walker_19 : RA M_X12_walker 19 0 20 := Or.inl ⟨0, by decide +kernel, rfl, rfl⟩
theorem r_12_walker_20 : RG M_X12_walker 20 12 83 23 := ⟨192, _, by decide +kernel, rfl, by decide, wd_f12_192, rfl, rfl⟩
theorem r_12_walker_23 : RL M_X12_walker 23 1 24 := Or.inl ⟨1, by decide +kernel, rfl, rfl⟩
theorem r_12_walker_24 : RW M_X12_walker 24 .iaload 25 1 := ⟨by decide +kernel, rfl⟩
theorem r_12_walker_25 : RC M_X12_walker 25 10 27 := ⟨⟨by decide, by decide⟩, Or.inr (Or.inl ⟨by decide +kernel, by decide, rfl⟩)⟩
theorem r_12_walker_27 : RB M_X12_walker 27 (.if_icmp .ne) 33 30 := ⟨6, by decide +kernel, rfl, rfl⟩
theorem r_12_walker_33 : RA M_X12_walker 33 0 34 := Or.inl ⟨0, by decide +kernel, rfl, rfl⟩
theorem r_12_walker_34 : RG M_X12_walker 34 12 82 37 := ⟨189, _, by decide +kernel, rfl, by decide, wd_f12_189, rfl, rfl⟩
theorem r_12_walker_37 : RC M_X12_walker 37 10 39 := ⟨⟨by decide, by decide⟩, Or.inr (Or.inl ⟨by decide +kernel, by decide, rfl⟩)⟩
theorem r_12_walker_39 : RL M_X12_walker 39 1 40 := Or.inl ⟨1, by decide +kernel, rfl, rfl⟩
theorem r_12_walker_40 : RW M_X12_walker 40 .imul 41 1 := ⟨by decide +kernel, rfl⟩
theorem r_12_walker_41 : RA M_X12_walker 41 0 42 := Or.inl ⟨0, by decide +kernel, rfl, rfl⟩
theorem r_12_walker_42 : RG M_X12_walker 42 12 83 45 := ⟨192, _, by decide +kernel, rfl, by decide, wd_f12_192, rfl, rfl⟩
theorem r_12_walker_45 : RL M_X12_walker 45 1 46 := Or.inl ⟨1, by decide +kernel, rfl, rfl⟩
theorem r_12_walker_46 : RW M_X12_walker 46 .iaload 47 1 := ⟨by decide +kernel, rfl⟩
theorem r_12_walker_47 : RW M_X12_walker 47 .iadd 48 1 := ⟨by decide +kernel, rfl⟩
theorem r_12_walker_48 : RL M_X12_walker 48 2 49 := Or.inl ⟨2, by decide +kernel, rfl, rfl⟩
theorem r_12_walker_49 : RW M_X12_walker 49 .iastore 50 1 := ⟨by decide +kernel, rfl⟩
theorem r_12_walker_50 : RA M_X12_walker 50 0 51 := Or.inl ⟨0, by decide +kernel, rfl, rfl⟩
theorem r_12_walker_51 : RG M_X12_walker 51 12 83 54 := ⟨192, _, by decide +kernel, rfl, by decide, wd_f12_192, rfl, rfl⟩
theorem r_12_walker_54 : RL M_X12_walker 54 1 55 := Or.inl ⟨1, by decide +kernel, rfl, rfl⟩
theorem r_12_walker_55 : RW M_X12_walker 55 .dup2 56 1 := ⟨by decide +kernel, rfl⟩
theorem r_12_walker_56 : RW M_X12_walker 56 .iaload 57 1 := ⟨by decide +kernel, rfl⟩
theorem r_12_walker_57 : RC M_X12_walker 57 1 58 := ⟨⟨by decide, by decide⟩, Or.inl ⟨by decide +kernel, rfl⟩⟩
theorem r_12_walker_58 : RW M_X12_walker 58 .iadd 59 1 := ⟨by decide +kernel, rfl⟩
theorem r_12_walker_59 : RW M_X12_walker 59 .iastore 60 1 := ⟨by decide +kernel, rfl⟩
theorem r_12_walker_60 : RA M_X12_walker 60 0 61 := Or.inl ⟨0, by decide +kernel, rfl, rfl⟩
theorem r_12_walker_61 : RG M_X12_walker 61 12 83 64 := ⟨192, _, by decide +kernel, rfl, by decide, wd_f12_192, rfl, rfl⟩
theorem r_12_walker_64 : RL M_X12_walker 64 1 65 := Or.inl ⟨1, by decide +kernel, rfl, rfl⟩
theorem r_12_walker_65 : RW M_X12_walker 65 .iaload 66 1 := ⟨by decide +kernel, rfl⟩
theorem r_12_walker_66 : RW M_X12_walker 66 .ireturn 67 1 := ⟨by decide +kernel, rfl⟩
theorem r_12_walker_30 : RC M_X12_walker 30 (-2) 32 := ⟨⟨by decide, by decide⟩, Or.inr (Or.inl ⟨by decide +kernel, by decide, rfl⟩)⟩
theorem r_12_walker_32 : RW M_X12_walker 32 .ireturn 33 1 := ⟨by decide +kernel, rfl⟩
theorem r_0_tellBegan_0 : RL M_X0_tellBegan 0 1 1 := Or.inl ⟨1, by decide +kernel, rfl, rfl⟩
theorem r_0_tellBegan_1 : RB M_X0_tellBegan 1 (.ifCond .lt) 30 4 := ⟨29, by decide +kernel, rfl, rfl⟩
theorem r_0_tellBegan_30 : RC M_X0_tellBegan 30 (-1) 31 := ⟨⟨by decide, by decide⟩, Or.inl ⟨by decide +kernel, rfl⟩⟩
theorem r_0_tellBegan_31 : RW M_X0_tellBegan 31 .ireturn 32 1 := ⟨by decide +kernel, rfl⟩
theorem r_0_tellBegan_4 : RL M_X0_tellBegan 4 1 5 := Or.inl ⟨1, by decide +kernel, rfl, rfl⟩
theorem r_0_tellBegan_5 : RA M_X0_tellBegan 5 0 6 := Or.inl ⟨0, by decide +kernel, rfl, rfl⟩
theorem r_0_tellBegan_6 : RG M_X0_tellBegan 6 0 8 9 := ⟨51, _, by decide +kernel, rfl, by decide, wd_f0_51, rfl, rfl⟩
theorem r_0_tellBegan_9 : RB M_X0_tellBegan 9 (.if_icmp .ge) 30 12 := ⟨21, by decide +kernel, rfl, rfl⟩
theorem r_0_tellBegan_12 : RL M_X0_tellBegan 12 1 13 := Or.inl ⟨1, by decide +kernel, rfl, rfl⟩
theorem r_0_tellBegan_13 : RA M_X0_tellBegan 13 0 14 := Or.inl ⟨0, by decide +kernel, rfl, rfl⟩
theorem r_0_tellBegan_14 : RG M_X0_tellBegan 14 0 7 17 := ⟨35, _, by decide +kernel, rfl, by decide, wd_f0_35, rfl, rfl⟩
theorem r_0_tellBegan_17 : RW M_X0_tellBegan 17 .arraylength 18 1 := ⟨by decide +kernel, rfl⟩
theorem r_0_tellBegan_18 : RB M_X0_tellBegan 18 (.if_icmp .ge) 30 21 := ⟨12, by decide +kernel, rfl, rfl⟩
theorem r_0_tellBegan_21 : RA M_X0_tellBegan 21 0 22 := Or.inl ⟨0, by decide +kernel, rfl, rfl⟩
theorem r_0_tellBegan_22 : RG M_X0_tellBegan 22 0 7 25 := ⟨35, _, by decide +kernel, rfl, by decide, wd_f0_35, rfl, rfl⟩
theorem r_0_tellBegan_25 : RL M_X0_tellBegan 25 1 26 := Or.inl ⟨1, by decide +kernel, rfl, rfl⟩
theorem r_0_tellBegan_26 : RW M_X0_tellBegan 26 .iaload 27 1 := ⟨by decide +kernel, rfl⟩
theorem r_0_tellBegan_27 : RB M_X0_tellBegan 27 .goto 31 30 := ⟨4, by decide +kernel, rfl, rfl⟩
theorem r_12_began_0 : RL M_X12_began 0 1 1 := Or.inl ⟨1, by decide +kernel, rfl, rfl⟩
theorem r_12_began_1 : RB M_X12_began 1 (.ifCond .lt) 21 4 := ⟨20, by decide +kernel, rfl, rfl⟩
theorem r_12_began_21 : RC M_X12_began 21 (-1) 22 := ⟨⟨by decide, by decide⟩, Or.inl ⟨by decide +kernel, rfl⟩⟩
theorem r_12_began_22 : RW M_X12_began 22 .ireturn 23 1 := ⟨by decide +kernel, rfl⟩
theorem r_12_began_4 : RL M_X12_began 4 1 5 := Or.inl ⟨1, by decide +kernel, rfl, rfl⟩
theorem r_12_began_5 : RA M_X12_began 5 0 6 := Or.inl ⟨0, by decide +kernel, rfl, rfl⟩
theorem r_12_began_6 : RG M_X12_began 6 12 87 9 := ⟨483, _, by decide +kernel, rfl, by decide, wd_f12_483, rfl, rfl⟩
theorem r_12_began_9 : RB M_X12_began 9 (.if_icmp .ge) 21 12 := ⟨12, by decide +kernel, rfl, rfl⟩
theorem r_12_began_12 : RA M_X12_began 12 0 13 := Or.inl ⟨0, by decide +kernel, rfl, rfl⟩
theorem r_12_began_13 : RG M_X12_began 13 12 86 16 := ⟨198, _, by decide +kernel, rfl, by decide, wd_f12_198, rfl, rfl⟩
theorem r_12_began_16 : RL M_X12_began 16 1 17 := Or.inl ⟨1, by decide +kernel, rfl, rfl⟩
theorem r_12_began_17 : RW M_X12_began 17 .iaload 18 1 := ⟨by decide +kernel, rfl⟩
theorem r_12_began_18 : RB M_X12_began 18 .goto 22 21 := ⟨4, by decide +kernel, rfl, rfl⟩
theorem r_1_addSought_0 : RA M_X1_addSought 0 0 1 := Or.inl ⟨0, by decide +kernel, rfl, rfl⟩
theorem r_1_addSought_1 : RG M_X1_addSought 1 1 4 4 := ⟨48, _, by decide +kernel, rfl, by decide, wd_f1_48, rfl, rfl⟩
theorem r_1_addSought_4 : RL M_X1_addSought 4 1 5 := Or.inl ⟨1, by decide +kernel, rfl, rfl⟩
theorem r_1_addSought_5 : RKv M_X1_addSought M_X2_isCamp 5 1 2 8 := ⟨98, by decide +kernel, wd_m1_98, ok_M_X2_isCamp, wd_s2_isCamp, rfl⟩
theorem r_1_addSought_8 : RB M_X1_addSought 8 (.ifCond .eq) 30 11 := ⟨22, by decide +kernel, rfl, rfl⟩
theorem r_1_addSought_30 : RC M_X1_addSought 30 (-1) 31 := ⟨⟨by decide, by decide⟩, Or.inl ⟨by decide +kernel, rfl⟩⟩
theorem r_1_addSought_31 : RW M_X1_addSought 31 .ireturn 32 1 := ⟨by decide +kernel, rfl⟩
theorem r_1_addSought_11 : RL M_X1_addSought 11 2 12 := Or.inl ⟨2, by decide +kernel, rfl, rfl⟩
theorem r_1_addSought_12 : RKs M_X1_addSought M_X11_isDay 12 1 15 := ⟨171, by decide +kernel, Or.inr (by decide +kernel), ok_M_X11_isDay, rfl⟩
theorem r_1_addSought_15 : RB M_X1_addSought 15 (.ifCond .eq) 30 18 := ⟨15, by decide +kernel, rfl, rfl⟩
theorem r_1_addSought_18 : RL M_X1_addSought 18 3 19 := Or.inl ⟨3, by decide +kernel, rfl, rfl⟩
theorem r_1_addSought_19 : RKs M_X1_addSought M_X11_isDay 19 1 22 := ⟨171, by decide +kernel, Or.inr (by decide +kernel), ok_M_X11_isDay, rfl⟩
theorem r_1_addSought_22 : RB M_X1_addSought 22 (.ifCond .eq) 30 25 := ⟨8, by decide +kernel, rfl, rfl⟩
theorem r_1_addSought_25 : RL M_X1_addSought 25 2 26 := Or.inl ⟨2, by decide +kernel, rfl, rfl⟩
theorem r_1_addSought_26 : RL M_X1_addSought 26 3 27 := Or.inl ⟨3, by decide +kernel, rfl, rfl⟩
theorem r_1_addSought_27 : RB M_X1_addSought 27 (.if_icmp .le) 32 30 := ⟨5, by decide +kernel, rfl, rfl⟩
theorem r_1_addSought_32 : RA M_X1_addSought 32 0 33 := Or.inl ⟨0, by decide +kernel, rfl, rfl⟩
theorem r_1_addSought_33 : RG M_X1_addSought 33 1 13 36 := ⟨174, _, by decide +kernel, rfl, by decide, wd_f1_174, rfl, rfl⟩
theorem r_1_addSought_36 : RC M_X1_addSought 36 5 37 := ⟨⟨by decide, by decide⟩, Or.inl ⟨by decide +kernel, rfl⟩⟩
theorem r_1_addSought_37 : RB M_X1_addSought 37 (.if_icmp .lt) 43 40 := ⟨6, by decide +kernel, rfl, rfl⟩
theorem r_1_addSought_43 : RA M_X1_addSought 43 0 44 := Or.inl ⟨0, by decide +kernel, rfl, rfl⟩
theorem r_1_addSought_44 : RG M_X1_addSought 44 1 10 47 := ⟨33, _, by decide +kernel, rfl, by decide, wd_f1_33, rfl, rfl⟩
theorem r_1_addSought_47 : RA M_X1_addSought 47 0 48 := Or.inl ⟨0, by decide +kernel, rfl, rfl⟩
theorem r_1_addSought_48 : RG M_X1_addSought 48 1 13 51 := ⟨174, _, by decide +kernel, rfl, by decide, wd_f1_174, rfl, rfl⟩
theorem r_1_addSought_51 : RL M_X1_addSought 51 1 52 := Or.inl ⟨1, by decide +kernel, rfl, rfl⟩
theorem r_1_addSought_52 : RW M_X1_addSought 52 .iastore 53 1 := ⟨by decide +kernel, rfl⟩
theorem r_1_addSought_53 : RA M_X1_addSought 53 0 54 := Or.inl ⟨0, by decide +kernel, rfl, rfl⟩
theorem r_1_addSought_54 : RG M_X1_addSought 54 1 11 57 := ⟨36, _, by decide +kernel, rfl, by decide, wd_f1_36, rfl, rfl⟩
theorem r_1_addSought_57 : RA M_X1_addSought 57 0 58 := Or.inl ⟨0, by decide +kernel, rfl, rfl⟩
theorem r_1_addSought_58 : RG M_X1_addSought 58 1 13 61 := ⟨174, _, by decide +kernel, rfl, by decide, wd_f1_174, rfl, rfl⟩
theorem r_1_addSought_61 : RL M_X1_addSought 61 2 62 := Or.inl ⟨2, by decide +kernel, rfl, rfl⟩
theorem r_1_addSought_62 : RW M_X1_addSought 62 .iastore 63 1 := ⟨by decide +kernel, rfl⟩
theorem r_1_addSought_63 : RA M_X1_addSought 63 0 64 := Or.inl ⟨0, by decide +kernel, rfl, rfl⟩
theorem r_1_addSought_64 : RG M_X1_addSought 64 1 12 67 := ⟨39, _, by decide +kernel, rfl, by decide, wd_f1_39, rfl, rfl⟩
theorem r_1_addSought_67 : RA M_X1_addSought 67 0 68 := Or.inl ⟨0, by decide +kernel, rfl, rfl⟩
theorem r_1_addSought_68 : RG M_X1_addSought 68 1 13 71 := ⟨174, _, by decide +kernel, rfl, by decide, wd_f1_174, rfl, rfl⟩
theorem r_1_addSought_71 : RL M_X1_addSought 71 3 72 := Or.inl ⟨3, by decide +kernel, rfl, rfl⟩
theorem r_1_addSought_72 : RW M_X1_addSought 72 .iastore 73 1 := ⟨by decide +kernel, rfl⟩
theorem r_1_addSought_73 : RA M_X1_addSought 73 0 74 := Or.inl ⟨0, by decide +kernel, rfl, rfl⟩
theorem r_1_addSought_74 : RW M_X1_addSought 74 .dup 75 1 := ⟨by decide +kernel, rfl⟩
theorem r_1_addSought_75 : RG M_X1_addSought 75 1 13 78 := ⟨174, _, by decide +kernel, rfl, by decide, wd_f1_174, rfl, rfl⟩
theorem r_1_addSought_78 : RC M_X1_addSought 78 1 79 := ⟨⟨by decide, by decide⟩, Or.inl ⟨by decide +kernel, rfl⟩⟩
theorem r_1_addSought_79 : RW M_X1_addSought 79 .iadd 80 1 := ⟨by decide +kernel, rfl⟩
theorem r_1_addSought_80 : RP M_X1_addSought 80 1 13 83 := ⟨174, _, by decide +kernel, rfl, by decide, wd_f1_174, rfl, Or.inl rfl, rfl⟩
theorem r_1_addSought_83 : RA M_X1_addSought 83 0 84 := Or.inl ⟨0, by decide +kernel, rfl, rfl⟩
theorem r_1_addSought_84 : RG M_X1_addSought 84 1 13 87 := ⟨174, _, by decide +kernel, rfl, by decide, wd_f1_174, rfl, rfl⟩
theorem r_1_addSought_87 : RW M_X1_addSought 87 .ireturn 88 1 := ⟨by decide +kernel, rfl⟩
theorem r_1_addSought_40 : RC M_X1_addSought 40 (-2) 42 := ⟨⟨by decide, by decide⟩, Or.inr (Or.inl ⟨by decide +kernel, by decide, rfl⟩)⟩
theorem r_1_addSought_42 : RW M_X1_addSought 42 .ireturn 43 1 := ⟨by decide +kernel, rfl⟩
theorem r_12_sought_0 : RA M_X12_sought 0 0 1 := Or.inl ⟨0, by decide +kernel, rfl, rfl⟩
theorem r_12_sought_1 : RL M_X12_sought 1 1 2 := Or.inl ⟨1, by decide +kernel, rfl, rfl⟩
theorem r_12_sought_2 : RKv M_X12_sought M_X12_isCamp 2 1 12 5 := ⟨247, by decide +kernel, wd_m12_247, ok_M_X12_isCamp, wd_s12_isCamp, rfl⟩
theorem r_12_sought_5 : RB M_X12_sought 5 (.ifCond .eq) 27 8 := ⟨22, by decide +kernel, rfl, rfl⟩
theorem r_12_sought_27 : RC M_X12_sought 27 (-1) 28 := ⟨⟨by decide, by decide⟩, Or.inl ⟨by decide +kernel, rfl⟩⟩
theorem r_12_sought_28 : RW M_X12_sought 28 .ireturn 29 1 := ⟨by decide +kernel, rfl⟩
theorem r_12_sought_8 : RL M_X12_sought 8 2 9 := Or.inl ⟨2, by decide +kernel, rfl, rfl⟩
theorem r_12_sought_9 : RKs M_X12_sought M_X12_isDay 9 1 12 := ⟨302, by decide +kernel, Or.inl wd_m12_302, ok_M_X12_isDay, rfl⟩
theorem r_12_sought_12 : RB M_X12_sought 12 (.ifCond .eq) 27 15 := ⟨15, by decide +kernel, rfl, rfl⟩
theorem r_12_sought_15 : RL M_X12_sought 15 3 16 := Or.inl ⟨3, by decide +kernel, rfl, rfl⟩
theorem r_12_sought_16 : RKs M_X12_sought M_X12_isDay 16 1 19 := ⟨302, by decide +kernel, Or.inl wd_m12_302, ok_M_X12_isDay, rfl⟩
theorem r_12_sought_19 : RB M_X12_sought 19 (.ifCond .eq) 27 22 := ⟨8, by decide +kernel, rfl, rfl⟩
theorem r_12_sought_22 : RL M_X12_sought 22 2 23 := Or.inl ⟨2, by decide +kernel, rfl, rfl⟩
theorem r_12_sought_23 : RL M_X12_sought 23 3 24 := Or.inl ⟨3, by decide +kernel, rfl, rfl⟩
theorem r_12_sought_24 : RB M_X12_sought 24 (.if_icmp .le) 29 27 := ⟨5, by decide +kernel, rfl, rfl⟩
theorem r_12_sought_29 : RA M_X12_sought 29 0 30 := Or.inl ⟨0, by decide +kernel, rfl, rfl⟩
theorem r_12_sought_30 : RG M_X12_sought 30 12 91 33 := ⟨489, _, by decide +kernel, rfl, by decide, wd_f12_489, rfl, rfl⟩
theorem r_12_sought_33 : RC M_X12_sought 33 5 34 := ⟨⟨by decide, by decide⟩, Or.inl ⟨by decide +kernel, rfl⟩⟩
theorem r_12_sought_34 : RB M_X12_sought 34 (.if_icmp .ne) 40 37 := ⟨6, by decide +kernel, rfl, rfl⟩
theorem r_12_sought_40 : RA M_X12_sought 40 0 41 := Or.inl ⟨0, by decide +kernel, rfl, rfl⟩
theorem r_12_sought_41 : RG M_X12_sought 41 12 88 44 := ⟨201, _, by decide +kernel, rfl, by decide, wd_f12_201, rfl, rfl⟩
theorem r_12_sought_44 : RA M_X12_sought 44 0 45 := Or.inl ⟨0, by decide +kernel, rfl, rfl⟩
theorem r_12_sought_45 : RG M_X12_sought 45 12 91 48 := ⟨489, _, by decide +kernel, rfl, by decide, wd_f12_489, rfl, rfl⟩
theorem r_12_sought_48 : RL M_X12_sought 48 1 49 := Or.inl ⟨1, by decide +kernel, rfl, rfl⟩
theorem r_12_sought_49 : RW M_X12_sought 49 .iastore 50 1 := ⟨by decide +kernel, rfl⟩
theorem r_12_sought_50 : RA M_X12_sought 50 0 51 := Or.inl ⟨0, by decide +kernel, rfl, rfl⟩
theorem r_12_sought_51 : RG M_X12_sought 51 12 89 54 := ⟨204, _, by decide +kernel, rfl, by decide, wd_f12_204, rfl, rfl⟩
theorem r_12_sought_54 : RA M_X12_sought 54 0 55 := Or.inl ⟨0, by decide +kernel, rfl, rfl⟩
theorem r_12_sought_55 : RG M_X12_sought 55 12 91 58 := ⟨489, _, by decide +kernel, rfl, by decide, wd_f12_489, rfl, rfl⟩
theorem r_12_sought_58 : RL M_X12_sought 58 2 59 := Or.inl ⟨2, by decide +kernel, rfl, rfl⟩
theorem r_12_sought_59 : RW M_X12_sought 59 .iastore 60 1 := ⟨by decide +kernel, rfl⟩
theorem r_12_sought_60 : RA M_X12_sought 60 0 61 := Or.inl ⟨0, by decide +kernel, rfl, rfl⟩
theorem r_12_sought_61 : RG M_X12_sought 61 12 90 64 := ⟨207, _, by decide +kernel, rfl, by decide, wd_f12_207, rfl, rfl⟩
theorem r_12_sought_64 : RA M_X12_sought 64 0 65 := Or.inl ⟨0, by decide +kernel, rfl, rfl⟩
theorem r_12_sought_65 : RG M_X12_sought 65 12 91 68 := ⟨489, _, by decide +kernel, rfl, by decide, wd_f12_489, rfl, rfl⟩
theorem r_12_sought_68 : RL M_X12_sought 68 3 69 := Or.inl ⟨3, by decide +kernel, rfl, rfl⟩
theorem r_12_sought_69 : RW M_X12_sought 69 .iastore 70 1 := ⟨by decide +kernel, rfl⟩
theorem r_12_sought_70 : RA M_X12_sought 70 0 71 := Or.inl ⟨0, by decide +kernel, rfl, rfl⟩
theorem r_12_sought_71 : RW M_X12_sought 71 .dup 72 1 := ⟨by decide +kernel, rfl⟩
theorem r_12_sought_72 : RG M_X12_sought 72 12 91 75 := ⟨489, _, by decide +kernel, rfl, by decide, wd_f12_489, rfl, rfl⟩
theorem r_12_sought_75 : RC M_X12_sought 75 1 76 := ⟨⟨by decide, by decide⟩, Or.inl ⟨by decide +kernel, rfl⟩⟩
theorem r_12_sought_76 : RW M_X12_sought 76 .iadd 77 1 := ⟨by decide +kernel, rfl⟩
theorem r_12_sought_77 : RP M_X12_sought 77 12 91 80 := ⟨489, _, by decide +kernel, rfl, by decide, wd_f12_489, rfl, Or.inl rfl, rfl⟩
theorem r_12_sought_80 : RA M_X12_sought 80 0 81 := Or.inl ⟨0, by decide +kernel, rfl, rfl⟩
theorem r_12_sought_81 : RG M_X12_sought 81 12 91 84 := ⟨489, _, by decide +kernel, rfl, by decide, wd_f12_489, rfl, rfl⟩
theorem r_12_sought_84 : RW M_X12_sought 84 .ireturn 85 1 := ⟨by decide +kernel, rfl⟩
theorem r_12_sought_37 : RC M_X12_sought 37 (-2) 39 := ⟨⟨by decide, by decide⟩, Or.inr (Or.inl ⟨by decide +kernel, by decide, rfl⟩)⟩
theorem r_12_sought_39 : RW M_X12_sought 39 .ireturn 40 1 := ⟨by decide +kernel, rfl⟩
theorem r_1_couldBeSought_0 : RC M_X1_couldBeSought 0 0 1 := ⟨⟨by decide, by decide⟩, Or.inl ⟨by decide +kernel, rfl⟩⟩
theorem r_1_couldBeSought_1 : RS M_X1_couldBeSought 1 2 2 := ⟨by decide, Or.inl ⟨2, by decide +kernel, rfl, rfl⟩⟩
theorem r_1_couldBeSought_2 : RL M_X1_couldBeSought 2 2 3 := Or.inl ⟨2, by decide +kernel, rfl, rfl⟩
theorem r_1_couldBeSought_3 : RA M_X1_couldBeSought 3 0 4 := Or.inl ⟨0, by decide +kernel, rfl, rfl⟩
theorem r_1_couldBeSought_4 : RG M_X1_couldBeSought 4 1 3 7 := ⟨135, _, by decide +kernel, rfl, by decide, wd_f1_135, rfl, rfl⟩
theorem r_1_couldBeSought_7 : RB M_X1_couldBeSought 7 (.if_icmp .ge) 131 10 := ⟨124, by decide +kernel, rfl, rfl⟩
theorem r_1_couldBeSought_131 : RC M_X1_couldBeSought 131 1 132 := ⟨⟨by decide, by decide⟩, Or.inl ⟨by decide +kernel, rfl⟩⟩
theorem r_1_couldBeSought_132 : RW M_X1_couldBeSought 132 .ireturn 133 1 := ⟨by decide +kernel, rfl⟩
theorem r_1_couldBeSought_10 : RA M_X1_couldBeSought 10 0 11 := Or.inl ⟨0, by decide +kernel, rfl, rfl⟩
theorem r_1_couldBeSought_11 : RG M_X1_couldBeSought 11 1 6 14 := ⟨21, _, by decide +kernel, rfl, by decide, wd_f1_21, rfl, rfl⟩
theorem r_1_couldBeSought_14 : RL M_X1_couldBeSought 14 2 15 := Or.inl ⟨2, by decide +kernel, rfl, rfl⟩
theorem r_1_couldBeSought_15 : RW M_X1_couldBeSought 15 .iaload 16 1 := ⟨by decide +kernel, rfl⟩
theorem r_1_couldBeSought_16 : RL M_X1_couldBeSought 16 1 17 := Or.inl ⟨1, by decide +kernel, rfl, rfl⟩
theorem r_1_couldBeSought_17 : RB M_X1_couldBeSought 17 (.if_icmp .eq) 23 20 := ⟨6, by decide +kernel, rfl, rfl⟩
theorem r_1_couldBeSought_23 : RA M_X1_couldBeSought 23 0 24 := Or.inl ⟨0, by decide +kernel, rfl, rfl⟩
theorem r_1_couldBeSought_24 : RG M_X1_couldBeSought 24 1 9 27 := ⟨30, _, by decide +kernel, rfl, by decide, wd_f1_30, rfl, rfl⟩
theorem r_1_couldBeSought_27 : RL M_X1_couldBeSought 27 2 28 := Or.inl ⟨2, by decide +kernel, rfl, rfl⟩
theorem r_1_couldBeSought_28 : RW M_X1_couldBeSought 28 .iaload 29 1 := ⟨by decide +kernel, rfl⟩
theorem r_1_couldBeSought_29 : RC M_X1_couldBeSought 29 (-1) 30 := ⟨⟨by decide, by decide⟩, Or.inl ⟨by decide +kernel, rfl⟩⟩
theorem r_1_couldBeSought_30 : RB M_X1_couldBeSought 30 (.if_icmp .ne) 40 33 := ⟨10, by decide +kernel, rfl, rfl⟩
theorem r_1_couldBeSought_40 : RA M_X1_couldBeSought 40 0 41 := Or.inl ⟨0, by decide +kernel, rfl, rfl⟩
theorem r_1_couldBeSought_41 : RG M_X1_couldBeSought 41 1 9 44 := ⟨30, _, by decide +kernel, rfl, by decide, wd_f1_30, rfl, rfl⟩
theorem r_1_couldBeSought_44 : RL M_X1_couldBeSought 44 2 45 := Or.inl ⟨2, by decide +kernel, rfl, rfl⟩
theorem r_1_couldBeSought_45 : RW M_X1_couldBeSought 45 .iaload 46 1 := ⟨by decide +kernel, rfl⟩
theorem r_1_couldBeSought_46 : RS M_X1_couldBeSought 46 3 47 := ⟨by decide, Or.inl ⟨3, by decide +kernel, rfl, rfl⟩⟩
theorem r_1_couldBeSought_47 : RC M_X1_couldBeSought 47 0 48 := ⟨⟨by decide, by decide⟩, Or.inl ⟨by decide +kernel, rfl⟩⟩
theorem r_1_couldBeSought_48 : RS M_X1_couldBeSought 48 4 50 := ⟨by decide, Or.inr ⟨by decide +kernel, rfl⟩⟩
theorem r_1_couldBeSought_50 : RL M_X1_couldBeSought 50 4 52 := Or.inr ⟨by decide +kernel, rfl⟩
theorem r_1_couldBeSought_52 : RA M_X1_couldBeSought 52 0 53 := Or.inl ⟨0, by decide +kernel, rfl, rfl⟩
theorem r_1_couldBeSought_53 : RG M_X1_couldBeSought 53 1 13 56 := ⟨174, _, by decide +kernel, rfl, by decide, wd_f1_174, rfl, rfl⟩
theorem r_1_couldBeSought_56 : RB M_X1_couldBeSought 56 (.if_icmp .ge) 125 59 := ⟨69, by decide +kernel, rfl, rfl⟩
theorem r_1_couldBeSought_125 : RI M_X1_couldBeSought 125 2 1 128 := ⟨by decide, by decide +kernel, rfl⟩
theorem r_1_couldBeSought_128 : RB M_X1_couldBeSought 128 .goto 2 131 := ⟨(-126), by decide +kernel, rfl, rfl⟩
theorem r_1_couldBeSought_59 : RA M_X1_couldBeSought 59 0 60 := Or.inl ⟨0, by decide +kernel, rfl, rfl⟩
theorem r_1_couldBeSought_60 : RG M_X1_couldBeSought 60 1 8 63 := ⟨27, _, by decide +kernel, rfl, by decide, wd_f1_27, rfl, rfl⟩
theorem r_1_couldBeSought_63 : RL M_X1_couldBeSought 63 2 64 := Or.inl ⟨2, by decide +kernel, rfl, rfl⟩
theorem r_1_couldBeSought_64 : RW M_X1_couldBeSought 64 .iaload 65 1 := ⟨by decide +kernel, rfl⟩
theorem r_1_couldBeSought_65 : RA M_X1_couldBeSought 65 0 66 := Or.inl ⟨0, by decide +kernel, rfl, rfl⟩
theorem r_1_couldBeSought_66 : RG M_X1_couldBeSought 66 1 11 69 := ⟨36, _, by decide +kernel, rfl, by decide, wd_f1_36, rfl, rfl⟩
theorem r_1_couldBeSought_69 : RL M_X1_couldBeSought 69 4 71 := Or.inr ⟨by decide +kernel, rfl⟩
theorem r_1_couldBeSought_71 : RW M_X1_couldBeSought 71 .iaload 72 1 := ⟨by decide +kernel, rfl⟩
theorem r_1_couldBeSought_72 : RKm M_X1_couldBeSought 72 Lib.Math.max.name 75 := ⟨186, by decide +kernel, wd_m1_186, rfl⟩
theorem r_1_couldBeSought_75 : RL M_X1_couldBeSought 75 3 76 := Or.inl ⟨3, by decide +kernel, rfl, rfl⟩
theorem r_1_couldBeSought_76 : RA M_X1_couldBeSought 76 0 77 := Or.inl ⟨0, by decide +kernel, rfl, rfl⟩
theorem r_1_couldBeSought_77 : RG M_X1_couldBeSought 77 1 12 80 := ⟨39, _, by decide +kernel, rfl, by decide, wd_f1_39, rfl, rfl⟩
theorem r_1_couldBeSought_80 : RL M_X1_couldBeSought 80 4 82 := Or.inr ⟨by decide +kernel, rfl⟩
theorem r_1_couldBeSought_82 : RW M_X1_couldBeSought 82 .iaload 83 1 := ⟨by decide +kernel, rfl⟩
theorem r_1_couldBeSought_83 : RKm M_X1_couldBeSought 83 Lib.Math.min.name 86 := ⟨191, by decide +kernel, wd_m1_191, rfl⟩
theorem r_1_couldBeSought_86 : RB M_X1_couldBeSought 86 (.if_icmp .gt) 93 89 := ⟨7, by decide +kernel, rfl, rfl⟩
theorem r_1_couldBeSought_93 : RC M_X1_couldBeSought 93 0 94 := ⟨⟨by decide, by decide⟩, Or.inl ⟨by decide +kernel, rfl⟩⟩
theorem r_1_couldBeSought_94 : RS M_X1_couldBeSought 94 5 96 := ⟨by decide, Or.inr ⟨by decide +kernel, rfl⟩⟩
theorem r_1_couldBeSought_96 : RL M_X1_couldBeSought 96 5 98 := Or.inr ⟨by decide +kernel, rfl⟩
theorem r_1_couldBeSought_98 : RB M_X1_couldBeSought 98 (.ifCond .eq) 119 101 := ⟨21, by decide +kernel, rfl, rfl⟩
theorem r_1_couldBeSought_119 : RI M_X1_couldBeSought 119 4 1 122 := ⟨by decide, by decide +kernel, rfl⟩
theorem r_1_couldBeSought_122 : RB M_X1_couldBeSought 122 .goto 50 125 := ⟨(-72), by decide +kernel, rfl, rfl⟩
theorem r_1_couldBeSought_101 : RA M_X1_couldBeSought 101 0 102 := Or.inl ⟨0, by decide +kernel, rfl, rfl⟩
theorem r_1_couldBeSought_102 : RG M_X1_couldBeSought 102 1 7 105 := ⟨24, _, by decide +kernel, rfl, by decide, wd_f1_24, rfl, rfl⟩
theorem r_1_couldBeSought_105 : RL M_X1_couldBeSought 105 2 106 := Or.inl ⟨2, by decide +kernel, rfl, rfl⟩
theorem r_1_couldBeSought_106 : RW M_X1_couldBeSought 106 .iaload 107 1 := ⟨by decide +kernel, rfl⟩
theorem r_1_couldBeSought_107 : RA M_X1_couldBeSought 107 0 108 := Or.inl ⟨0, by decide +kernel, rfl, rfl⟩
theorem r_1_couldBeSought_108 : RG M_X1_couldBeSought 108 1 10 111 := ⟨33, _, by decide +kernel, rfl, by decide, wd_f1_33, rfl, rfl⟩
theorem r_1_couldBeSought_111 : RL M_X1_couldBeSought 111 4 113 := Or.inr ⟨by decide +kernel, rfl⟩
theorem r_1_couldBeSought_113 : RW M_X1_couldBeSought 113 .iaload 114 1 := ⟨by decide +kernel, rfl⟩
theorem r_1_couldBeSought_114 : RB M_X1_couldBeSought 114 (.if_icmp .eq) 119 117 := ⟨5, by decide +kernel, rfl, rfl⟩
theorem r_1_couldBeSought_117 : RC M_X1_couldBeSought 117 0 118 := ⟨⟨by decide, by decide⟩, Or.inl ⟨by decide +kernel, rfl⟩⟩
theorem r_1_couldBeSought_118 : RW M_X1_couldBeSought 118 .ireturn 119 1 := ⟨by decide +kernel, rfl⟩
theorem r_1_couldBeSought_89 : RC M_X1_couldBeSought 89 1 90 := ⟨⟨by decide, by decide⟩, Or.inl ⟨by decide +kernel, rfl⟩⟩
theorem r_1_couldBeSought_90 : RB M_X1_couldBeSought 90 .goto 94 93 := ⟨4, by decide +kernel, rfl, rfl⟩
theorem r_1_couldBeSought_33 : RA M_X1_couldBeSought 33 0 34 := Or.inl ⟨0, by decide +kernel, rfl, rfl⟩
theorem r_1_couldBeSought_34 : RG M_X1_couldBeSought 34 1 2 37 := ⟨60, _, by decide +kernel, rfl, by decide, wd_f1_60, rfl, rfl⟩
theorem r_1_couldBeSought_37 : RB M_X1_couldBeSought 37 .goto 46 40 := ⟨9, by decide +kernel, rfl, rfl⟩
theorem r_1_couldBeSought_20 : RB M_X1_couldBeSought 20 .goto 125 23 := ⟨105, by decide +kernel, rfl, rfl⟩
theorem r_12_couldBe_0 : RC M_X12_couldBe 0 1 1 := ⟨⟨by decide, by decide⟩, Or.inl ⟨by decide +kernel, rfl⟩⟩
theorem r_12_couldBe_1 : RS M_X12_couldBe 1 2 2 := ⟨by decide, Or.inl ⟨2, by decide +kernel, rfl, rfl⟩⟩
theorem r_12_couldBe_2 : RC M_X12_couldBe 2 0 3 := ⟨⟨by decide, by decide⟩, Or.inl ⟨by decide +kernel, rfl⟩⟩
theorem r_12_couldBe_3 : RS M_X12_couldBe 3 3 4 := ⟨by decide, Or.inl ⟨3, by decide +kernel, rfl, rfl⟩⟩
theorem r_12_couldBe_4 : RL M_X12_couldBe 4 3 5 := Or.inl ⟨3, by decide +kernel, rfl, rfl⟩
theorem r_12_couldBe_5 : RA M_X12_couldBe 5 0 6 := Or.inl ⟨0, by decide +kernel, rfl, rfl⟩
theorem r_12_couldBe_6 : RG M_X12_couldBe 6 12 22 9 := ⟨265, _, by decide +kernel, rfl, by decide, wd_f12_265, rfl, rfl⟩
theorem r_12_couldBe_9 : RB M_X12_couldBe 9 (.if_icmp .ge) 191 12 := ⟨182, by decide +kernel, rfl, rfl⟩
theorem r_12_couldBe_191 : RL M_X12_couldBe 191 2 192 := Or.inl ⟨2, by decide +kernel, rfl, rfl⟩
theorem r_12_couldBe_192 : RW M_X12_couldBe 192 .ireturn 193 1 := ⟨by decide +kernel, rfl⟩
theorem r_12_couldBe_12 : RA M_X12_couldBe 12 0 13 := Or.inl ⟨0, by decide +kernel, rfl, rfl⟩
theorem r_12_couldBe_13 : RG M_X12_couldBe 13 12 21 16 := ⟨64, _, by decide +kernel, rfl, by decide, wd_f12_64, rfl, rfl⟩
theorem r_12_couldBe_16 : RL M_X12_couldBe 16 3 17 := Or.inl ⟨3, by decide +kernel, rfl, rfl⟩
theorem r_12_couldBe_17 : RW M_X12_couldBe 17 .iaload 18 1 := ⟨by decide +kernel, rfl⟩
theorem r_12_couldBe_18 : RB M_X12_couldBe 18 (.ifCond .ge) 28 21 := ⟨10, by decide +kernel, rfl, rfl⟩
theorem r_12_couldBe_28 : RA M_X12_couldBe 28 0 29 := Or.inl ⟨0, by decide +kernel, rfl, rfl⟩
theorem r_12_couldBe_29 : RG M_X12_couldBe 29 12 21 32 := ⟨64, _, by decide +kernel, rfl, by decide, wd_f12_64, rfl, rfl⟩
theorem r_12_couldBe_32 : RL M_X12_couldBe 32 3 33 := Or.inl ⟨3, by decide +kernel, rfl, rfl⟩
theorem r_12_couldBe_33 : RW M_X12_couldBe 33 .iaload 34 1 := ⟨by decide +kernel, rfl⟩
theorem r_12_couldBe_34 : RS M_X12_couldBe 34 4 36 := ⟨by decide, Or.inr ⟨by decide +kernel, rfl⟩⟩
theorem r_12_couldBe_36 : RC M_X12_couldBe 36 0 37 := ⟨⟨by decide, by decide⟩, Or.inl ⟨by decide +kernel, rfl⟩⟩
theorem r_12_couldBe_37 : RS M_X12_couldBe 37 5 39 := ⟨by decide, Or.inr ⟨by decide +kernel, rfl⟩⟩
theorem r_12_couldBe_39 : RL M_X12_couldBe 39 5 41 := Or.inr ⟨by decide +kernel, rfl⟩
theorem r_12_couldBe_41 : RA M_X12_couldBe 41 0 42 := Or.inl ⟨0, by decide +kernel, rfl, rfl⟩
theorem r_12_couldBe_42 : RG M_X12_couldBe 42 12 91 45 := ⟨489, _, by decide +kernel, rfl, by decide, wd_f12_489, rfl, rfl⟩
theorem r_12_couldBe_45 : RB M_X12_couldBe 45 (.if_icmp .ge) 185 48 := ⟨140, by decide +kernel, rfl, rfl⟩
theorem r_12_couldBe_185 : RI M_X12_couldBe 185 3 1 188 := ⟨by decide, by decide +kernel, rfl⟩
theorem r_12_couldBe_188 : RB M_X12_couldBe 188 .goto 4 191 := ⟨(-184), by decide +kernel, rfl, rfl⟩
theorem r_12_couldBe_48 : RA M_X12_couldBe 48 0 49 := Or.inl ⟨0, by decide +kernel, rfl, rfl⟩
theorem r_12_couldBe_49 : RG M_X12_couldBe 49 12 18 52 := ⟨55, _, by decide +kernel, rfl, by decide, wd_f12_55, rfl, rfl⟩
theorem r_12_couldBe_52 : RL M_X12_couldBe 52 3 53 := Or.inl ⟨3, by decide +kernel, rfl, rfl⟩
theorem r_12_couldBe_53 : RW M_X12_couldBe 53 .iaload 54 1 := ⟨by decide +kernel, rfl⟩
theorem r_12_couldBe_54 : RL M_X12_couldBe 54 1 55 := Or.inl ⟨1, by decide +kernel, rfl, rfl⟩
theorem r_12_couldBe_55 : RB M_X12_couldBe 55 (.if_icmp .ne) 185 58 := ⟨130, by decide +kernel, rfl, rfl⟩
theorem r_12_couldBe_58 : RA M_X12_couldBe 58 0 59 := Or.inl ⟨0, by decide +kernel, rfl, rfl⟩
theorem r_12_couldBe_59 : RG M_X12_couldBe 59 12 90 62 := ⟨207, _, by decide +kernel, rfl, by decide, wd_f12_207, rfl, rfl⟩
theorem r_12_couldBe_62 : RL M_X12_couldBe 62 5 64 := Or.inr ⟨by decide +kernel, rfl⟩
theorem r_12_couldBe_64 : RW M_X12_couldBe 64 .iaload 65 1 := ⟨by decide +kernel, rfl⟩
theorem r_12_couldBe_65 : RA M_X12_couldBe 65 0 66 := Or.inl ⟨0, by decide +kernel, rfl, rfl⟩
theorem r_12_couldBe_66 : RG M_X12_couldBe 66 12 0 69 := ⟨268, _, by decide +kernel, rfl, by decide, wd_f12_268, rfl, rfl⟩
theorem r_12_couldBe_69 : RB M_X12_couldBe 69 (.if_icmp .ge) 82 72 := ⟨13, by decide +kernel, rfl, rfl⟩
theorem r_12_couldBe_82 : RA M_X12_couldBe 82 0 83 := Or.inl ⟨0, by decide +kernel, rfl, rfl⟩
theorem r_12_couldBe_83 : RG M_X12_couldBe 83 12 0 86 := ⟨268, _, by decide +kernel, rfl, by decide, wd_f12_268, rfl, rfl⟩
theorem r_12_couldBe_86 : RS M_X12_couldBe 86 6 88 := ⟨by decide, Or.inr ⟨by decide +kernel, rfl⟩⟩
theorem r_12_couldBe_88 : RA M_X12_couldBe 88 0 89 := Or.inl ⟨0, by decide +kernel, rfl, rfl⟩
theorem r_12_couldBe_89 : RG M_X12_couldBe 89 12 20 92 := ⟨61, _, by decide +kernel, rfl, by decide, wd_f12_61, rfl, rfl⟩
theorem r_12_couldBe_92 : RL M_X12_couldBe 92 3 93 := Or.inl ⟨3, by decide +kernel, rfl, rfl⟩
theorem r_12_couldBe_93 : RW M_X12_couldBe 93 .iaload 94 1 := ⟨by decide +kernel, rfl⟩
theorem r_12_couldBe_94 : RA M_X12_couldBe 94 0 95 := Or.inl ⟨0, by decide +kernel, rfl, rfl⟩
theorem r_12_couldBe_95 : RG M_X12_couldBe 95 12 89 98 := ⟨204, _, by decide +kernel, rfl, by decide, wd_f12_204, rfl, rfl⟩
theorem r_12_couldBe_98 : RL M_X12_couldBe 98 5 100 := Or.inr ⟨by decide +kernel, rfl⟩
theorem r_12_couldBe_100 : RW M_X12_couldBe 100 .iaload 101 1 := ⟨by decide +kernel, rfl⟩
theorem r_12_couldBe_101 : RB M_X12_couldBe 101 (.if_icmp .le) 113 104 := ⟨12, by decide +kernel, rfl, rfl⟩
theorem r_12_couldBe_113 : RA M_X12_couldBe 113 0 114 := Or.inl ⟨0, by decide +kernel, rfl, rfl⟩
theorem r_12_couldBe_114 : RG M_X12_couldBe 114 12 89 117 := ⟨204, _, by decide +kernel, rfl, by decide, wd_f12_204, rfl, rfl⟩
theorem r_12_couldBe_117 : RL M_X12_couldBe 117 5 119 := Or.inr ⟨by decide +kernel, rfl⟩
theorem r_12_couldBe_119 : RW M_X12_couldBe 119 .iaload 120 1 := ⟨by decide +kernel, rfl⟩
theorem r_12_couldBe_120 : RS M_X12_couldBe 120 7 122 := ⟨by decide, Or.inr ⟨by decide +kernel, rfl⟩⟩
theorem r_12_couldBe_122 : RL M_X12_couldBe 122 7 124 := Or.inr ⟨by decide +kernel, rfl⟩
theorem r_12_couldBe_124 : RL M_X12_couldBe 124 4 126 := Or.inr ⟨by decide +kernel, rfl⟩
theorem r_12_couldBe_126 : RL M_X12_couldBe 126 6 128 := Or.inr ⟨by decide +kernel, rfl⟩
theorem r_12_couldBe_128 : RB M_X12_couldBe 128 (.if_icmp .ge) 136 131 := ⟨8, by decide +kernel, rfl, rfl⟩
theorem r_12_couldBe_136 : RL M_X12_couldBe 136 6 138 := Or.inr ⟨by decide +kernel, rfl⟩
theorem r_12_couldBe_138 : RB M_X12_couldBe 138 (.if_icmp .gt) 145 141 := ⟨7, by decide +kernel, rfl, rfl⟩
theorem r_12_couldBe_145 : RC M_X12_couldBe 145 0 146 := ⟨⟨by decide, by decide⟩, Or.inl ⟨by decide +kernel, rfl⟩⟩
theorem r_12_couldBe_146 : RS M_X12_couldBe 146 8 148 := ⟨by decide, Or.inr ⟨by decide +kernel, rfl⟩⟩
theorem r_12_couldBe_148 : RL M_X12_couldBe 148 2 149 := Or.inl ⟨2, by decide +kernel, rfl, rfl⟩
theorem r_12_couldBe_149 : RB M_X12_couldBe 149 (.ifCond .eq) 177 152 := ⟨28, by decide +kernel, rfl, rfl⟩
theorem r_12_couldBe_177 : RC M_X12_couldBe 177 0 178 := ⟨⟨by decide, by decide⟩, Or.inl ⟨by decide +kernel, rfl⟩⟩
theorem r_12_couldBe_178 : RS M_X12_couldBe 178 2 179 := ⟨by decide, Or.inl ⟨2, by decide +kernel, rfl, rfl⟩⟩
theorem r_12_couldBe_179 : RI M_X12_couldBe 179 5 1 182 := ⟨by decide, by decide +kernel, rfl⟩
theorem r_12_couldBe_182 : RB M_X12_couldBe 182 .goto 39 185 := ⟨(-143), by decide +kernel, rfl, rfl⟩
theorem r_12_couldBe_152 : RL M_X12_couldBe 152 8 154 := Or.inr ⟨by decide +kernel, rfl⟩
theorem r_12_couldBe_154 : RB M_X12_couldBe 154 (.ifCond .eq) 173 157 := ⟨19, by decide +kernel, rfl, rfl⟩
theorem r_12_couldBe_173 : RC M_X12_couldBe 173 1 174 := ⟨⟨by decide, by decide⟩, Or.inl ⟨by decide +kernel, rfl⟩⟩
theorem r_12_couldBe_174 : RB M_X12_couldBe 174 .goto 178 177 := ⟨4, by decide +kernel, rfl, rfl⟩
theorem r_12_couldBe_157 : RA M_X12_couldBe 157 0 158 := Or.inl ⟨0, by decide +kernel, rfl, rfl⟩
theorem r_12_couldBe_158 : RG M_X12_couldBe 158 12 19 161 := ⟨58, _, by decide +kernel, rfl, by decide, wd_f12_58, rfl, rfl⟩
theorem r_12_couldBe_161 : RL M_X12_couldBe 161 3 162 := Or.inl ⟨3, by decide +kernel, rfl, rfl⟩
theorem r_12_couldBe_162 : RW M_X12_couldBe 162 .iaload 163 1 := ⟨by decide +kernel, rfl⟩
theorem r_12_couldBe_163 : RA M_X12_couldBe 163 0 164 := Or.inl ⟨0, by decide +kernel, rfl, rfl⟩
theorem r_12_couldBe_164 : RG M_X12_couldBe 164 12 88 167 := ⟨201, _, by decide +kernel, rfl, by decide, wd_f12_201, rfl, rfl⟩
theorem r_12_couldBe_167 : RL M_X12_couldBe 167 5 169 := Or.inr ⟨by decide +kernel, rfl⟩
theorem r_12_couldBe_169 : RW M_X12_couldBe 169 .iaload 170 1 := ⟨by decide +kernel, rfl⟩
theorem r_12_couldBe_170 : RB M_X12_couldBe 170 (.if_icmp .ne) 177 173 := ⟨7, by decide +kernel, rfl, rfl⟩
theorem r_12_couldBe_141 : RC M_X12_couldBe 141 1 142 := ⟨⟨by decide, by decide⟩, Or.inl ⟨by decide +kernel, rfl⟩⟩
theorem r_12_couldBe_142 : RB M_X12_couldBe 142 .goto 146 145 := ⟨4, by decide +kernel, rfl, rfl⟩
theorem r_12_couldBe_131 : RL M_X12_couldBe 131 4 133 := Or.inr ⟨by decide +kernel, rfl⟩
theorem r_12_couldBe_133 : RB M_X12_couldBe 133 .goto 138 136 := ⟨5, by decide +kernel, rfl, rfl⟩
theorem r_12_couldBe_104 : RA M_X12_couldBe 104 0 105 := Or.inl ⟨0, by decide +kernel, rfl, rfl⟩
theorem r_12_couldBe_105 : RG M_X12_couldBe 105 12 20 108 := ⟨61, _, by decide +kernel, rfl, by decide, wd_f12_61, rfl, rfl⟩
theorem r_12_couldBe_108 : RL M_X12_couldBe 108 3 109 := Or.inl ⟨3, by decide +kernel, rfl, rfl⟩
theorem r_12_couldBe_109 : RW M_X12_couldBe 109 .iaload 110 1 := ⟨by decide +kernel, rfl⟩
theorem r_12_couldBe_110 : RB M_X12_couldBe 110 .goto 120 113 := ⟨10, by decide +kernel, rfl, rfl⟩
theorem r_12_couldBe_72 : RA M_X12_couldBe 72 0 73 := Or.inl ⟨0, by decide +kernel, rfl, rfl⟩
theorem r_12_couldBe_73 : RG M_X12_couldBe 73 12 90 76 := ⟨207, _, by decide +kernel, rfl, by decide, wd_f12_207, rfl, rfl⟩
theorem r_12_couldBe_76 : RL M_X12_couldBe 76 5 78 := Or.inr ⟨by decide +kernel, rfl⟩
theorem r_12_couldBe_78 : RW M_X12_couldBe 78 .iaload 79 1 := ⟨by decide +kernel, rfl⟩
theorem r_12_couldBe_79 : RB M_X12_couldBe 79 .goto 86 82 := ⟨7, by decide +kernel, rfl, rfl⟩
theorem r_12_couldBe_21 : RA M_X12_couldBe 21 0 22 := Or.inl ⟨0, by decide +kernel, rfl, rfl⟩
theorem r_12_couldBe_22 : RG M_X12_couldBe 22 12 0 25 := ⟨268, _, by decide +kernel, rfl, by decide, wd_f12_268, rfl, rfl⟩
theorem r_12_couldBe_25 : RB M_X12_couldBe 25 .goto 34 28 := ⟨9, by decide +kernel, rfl, rfl⟩
theorem r_1_seek_0 : RL M_X1_seek 0 1 1 := Or.inl ⟨1, by decide +kernel, rfl, rfl⟩
theorem r_1_seek_1 : RKs M_X1_seek M_X11_isSide 1 1 4 := ⟨177, by decide +kernel, Or.inr (by decide +kernel), ok_M_X11_isSide, rfl⟩
theorem r_1_seek_4 : RB M_X1_seek 4 (.ifCond .ne) 9 7 := ⟨5, by decide +kernel, rfl, rfl⟩
theorem r_1_seek_9 : RA M_X1_seek 9 0 10 := Or.inl ⟨0, by decide +kernel, rfl, rfl⟩
theorem r_1_seek_10 : RG M_X1_seek 10 1 13 13 := ⟨174, _, by decide +kernel, rfl, by decide, wd_f1_174, rfl, rfl⟩
theorem r_1_seek_13 : RB M_X1_seek 13 (.ifCond .ne) 19 16 := ⟨6, by decide +kernel, rfl, rfl⟩
theorem r_1_seek_19 : RA M_X1_seek 19 0 20 := Or.inl ⟨0, by decide +kernel, rfl, rfl⟩
theorem r_1_seek_20 : RC M_X1_seek 20 0 21 := ⟨⟨by decide, by decide⟩, Or.inl ⟨by decide +kernel, rfl⟩⟩
theorem r_1_seek_21 : RP M_X1_seek 21 1 15 24 := ⟨180, _, by decide +kernel, rfl, by decide, wd_f1_180, rfl, Or.inl rfl, rfl⟩
theorem r_1_seek_24 : RC M_X1_seek 24 0 25 := ⟨⟨by decide, by decide⟩, Or.inl ⟨by decide +kernel, rfl⟩⟩
theorem r_1_seek_25 : RS M_X1_seek 25 2 26 := ⟨by decide, Or.inl ⟨2, by decide +kernel, rfl, rfl⟩⟩
theorem r_1_seek_26 : RL M_X1_seek 26 2 27 := Or.inl ⟨2, by decide +kernel, rfl, rfl⟩
theorem r_1_seek_27 : RA M_X1_seek 27 0 28 := Or.inl ⟨0, by decide +kernel, rfl, rfl⟩
theorem r_1_seek_28 : RG M_X1_seek 28 1 1 31 := ⟨52, _, by decide +kernel, rfl, by decide, wd_f1_52, rfl, rfl⟩
theorem r_1_seek_31 : RB M_X1_seek 31 (.if_icmp .ge) 95 34 := ⟨64, by decide +kernel, rfl, rfl⟩
theorem r_1_seek_95 : RA M_X1_seek 95 0 96 := Or.inl ⟨0, by decide +kernel, rfl, rfl⟩
theorem r_1_seek_96 : RG M_X1_seek 96 1 15 99 := ⟨180, _, by decide +kernel, rfl, by decide, wd_f1_180, rfl, rfl⟩
theorem r_1_seek_99 : RW M_X1_seek 99 .ireturn 100 1 := ⟨by decide +kernel, rfl⟩
theorem r_1_seek_34 : RA M_X1_seek 34 0 35 := Or.inl ⟨0, by decide +kernel, rfl, rfl⟩
theorem r_1_seek_35 : RG M_X1_seek 35 1 0 38 := ⟨13, _, by decide +kernel, rfl, by decide, wd_f1_13, rfl, rfl⟩
theorem r_1_seek_38 : RL M_X1_seek 38 2 39 := Or.inl ⟨2, by decide +kernel, rfl, rfl⟩
theorem r_1_seek_39 : RW M_X1_seek 39 .aaload 40 1 := ⟨by decide +kernel, rfl⟩
theorem r_1_seek_40 : RT M_X1_seek 40 3 41 := ⟨by decide, Or.inl ⟨3, by decide +kernel, rfl, rfl⟩⟩
theorem r_1_seek_41 : RA M_X1_seek 41 3 42 := Or.inl ⟨3, by decide +kernel, rfl, rfl⟩
theorem r_1_seek_42 : RB M_X1_seek 42 .ifnull 89 45 := ⟨47, by decide +kernel, rfl, rfl⟩
theorem r_1_seek_45 : RA M_X1_seek 45 3 46 := Or.inl ⟨3, by decide +kernel, rfl, rfl⟩
theorem r_1_seek_46 : RG M_X1_seek 46 3 2 49 := ⟨129, _, by decide +kernel, rfl, by decide, wd_f1_129, rfl, rfl⟩
theorem r_1_seek_49 : RL M_X1_seek 49 1 50 := Or.inl ⟨1, by decide +kernel, rfl, rfl⟩
theorem r_1_seek_50 : RB M_X1_seek 50 (.if_icmp .ne) 89 53 := ⟨39, by decide +kernel, rfl, rfl⟩
theorem r_1_seek_89 : RI M_X1_seek 89 2 1 92 := ⟨by decide, by decide +kernel, rfl⟩
theorem r_1_seek_92 : RB M_X1_seek 92 .goto 26 95 := ⟨(-66), by decide +kernel, rfl, rfl⟩
theorem r_1_seek_53 : RA M_X1_seek 53 3 54 := Or.inl ⟨3, by decide +kernel, rfl, rfl⟩
theorem r_1_seek_54 : RG M_X1_seek 54 3 8 57 := ⟨70, _, by decide +kernel, rfl, by decide, wd_f1_70, rfl, rfl⟩
theorem r_1_seek_57 : RC M_X1_seek 57 4 58 := ⟨⟨by decide, by decide⟩, Or.inl ⟨by decide +kernel, rfl⟩⟩
theorem r_1_seek_58 : RB M_X1_seek 58 (.if_icmp .gt) 89 61 := ⟨31, by decide +kernel, rfl, rfl⟩
theorem r_1_seek_61 : RA M_X1_seek 61 0 62 := Or.inl ⟨0, by decide +kernel, rfl, rfl⟩
theorem r_1_seek_62 : RL M_X1_seek 62 2 63 := Or.inl ⟨2, by decide +kernel, rfl, rfl⟩
theorem r_1_seek_63 : RKv M_X1_seek M_X1_couldBeSought 63 1 1 66 := ⟨183, by decide +kernel, wd_m1_183, ok_M_X1_couldBeSought, wd_s1_couldBeSought, rfl⟩
theorem r_1_seek_66 : RB M_X1_seek 66 (.ifCond .eq) 89 69 := ⟨23, by decide +kernel, rfl, rfl⟩
theorem r_1_seek_69 : RA M_X1_seek 69 0 70 := Or.inl ⟨0, by decide +kernel, rfl, rfl⟩
theorem r_1_seek_70 : RG M_X1_seek 70 1 14 73 := ⟨42, _, by decide +kernel, rfl, by decide, wd_f1_42, rfl, rfl⟩
theorem r_1_seek_73 : RA M_X1_seek 73 0 74 := Or.inl ⟨0, by decide +kernel, rfl, rfl⟩
theorem r_1_seek_74 : RG M_X1_seek 74 1 15 77 := ⟨180, _, by decide +kernel, rfl, by decide, wd_f1_180, rfl, rfl⟩
theorem r_1_seek_77 : RL M_X1_seek 77 2 78 := Or.inl ⟨2, by decide +kernel, rfl, rfl⟩
theorem r_1_seek_78 : RW M_X1_seek 78 .iastore 79 1 := ⟨by decide +kernel, rfl⟩
theorem r_1_seek_79 : RA M_X1_seek 79 0 80 := Or.inl ⟨0, by decide +kernel, rfl, rfl⟩
theorem r_1_seek_80 : RW M_X1_seek 80 .dup 81 1 := ⟨by decide +kernel, rfl⟩
theorem r_1_seek_81 : RG M_X1_seek 81 1 15 84 := ⟨180, _, by decide +kernel, rfl, by decide, wd_f1_180, rfl, rfl⟩
theorem r_1_seek_84 : RC M_X1_seek 84 1 85 := ⟨⟨by decide, by decide⟩, Or.inl ⟨by decide +kernel, rfl⟩⟩
theorem r_1_seek_85 : RW M_X1_seek 85 .iadd 86 1 := ⟨by decide +kernel, rfl⟩
theorem r_1_seek_86 : RP M_X1_seek 86 1 15 89 := ⟨180, _, by decide +kernel, rfl, by decide, wd_f1_180, rfl, Or.inl rfl, rfl⟩
theorem r_1_seek_16 : RC M_X1_seek 16 (-3) 18 := ⟨⟨by decide, by decide⟩, Or.inr (Or.inl ⟨by decide +kernel, by decide, rfl⟩)⟩
theorem r_1_seek_18 : RW M_X1_seek 18 .ireturn 19 1 := ⟨by decide +kernel, rfl⟩
theorem r_1_seek_7 : RC M_X1_seek 7 (-1) 8 := ⟨⟨by decide, by decide⟩, Or.inl ⟨by decide +kernel, rfl⟩⟩
theorem r_1_seek_8 : RW M_X1_seek 8 .ireturn 9 1 := ⟨by decide +kernel, rfl⟩
theorem r_12_find_0 : RL M_X12_find 0 1 1 := Or.inl ⟨1, by decide +kernel, rfl, rfl⟩
theorem r_12_find_1 : RKs M_X12_find M_X12_isSide 1 1 4 := ⟨254, by decide +kernel, Or.inl wd_m12_254, ok_M_X12_isSide, rfl⟩
theorem r_12_find_4 : RB M_X12_find 4 (.ifCond .ne) 9 7 := ⟨5, by decide +kernel, rfl, rfl⟩
theorem r_12_find_9 : RA M_X12_find 9 0 10 := Or.inl ⟨0, by decide +kernel, rfl, rfl⟩
theorem r_12_find_10 : RG M_X12_find 10 12 91 13 := ⟨489, _, by decide +kernel, rfl, by decide, wd_f12_489, rfl, rfl⟩
theorem r_12_find_13 : RB M_X12_find 13 (.ifCond .ne) 19 16 := ⟨6, by decide +kernel, rfl, rfl⟩
theorem r_12_find_19 : RA M_X12_find 19 0 20 := Or.inl ⟨0, by decide +kernel, rfl, rfl⟩
theorem r_12_find_20 : RC M_X12_find 20 0 21 := ⟨⟨by decide, by decide⟩, Or.inl ⟨by decide +kernel, rfl⟩⟩
theorem r_12_find_21 : RP M_X12_find 21 12 93 24 := ⟨492, _, by decide +kernel, rfl, by decide, wd_f12_492, rfl, Or.inl rfl, rfl⟩
theorem r_12_find_24 : RC M_X12_find 24 0 25 := ⟨⟨by decide, by decide⟩, Or.inl ⟨by decide +kernel, rfl⟩⟩
theorem r_12_find_25 : RS M_X12_find 25 2 26 := ⟨by decide, Or.inl ⟨2, by decide +kernel, rfl, rfl⟩⟩
theorem r_12_find_26 : RL M_X12_find 26 2 27 := Or.inl ⟨2, by decide +kernel, rfl, rfl⟩
theorem r_12_find_27 : RA M_X12_find 27 0 28 := Or.inl ⟨0, by decide +kernel, rfl, rfl⟩
theorem r_12_find_28 : RG M_X12_find 28 12 17 31 := ⟨251, _, by decide +kernel, rfl, by decide, wd_f12_251, rfl, rfl⟩
theorem r_12_find_31 : RB M_X12_find 31 (.if_icmp .ge) 88 34 := ⟨57, by decide +kernel, rfl, rfl⟩
theorem r_12_find_88 : RA M_X12_find 88 0 89 := Or.inl ⟨0, by decide +kernel, rfl, rfl⟩
theorem r_12_find_89 : RG M_X12_find 89 12 93 92 := ⟨492, _, by decide +kernel, rfl, by decide, wd_f12_492, rfl, rfl⟩
theorem r_12_find_92 : RW M_X12_find 92 .ireturn 93 1 := ⟨by decide +kernel, rfl⟩
theorem r_12_find_34 : RA M_X12_find 34 0 35 := Or.inl ⟨0, by decide +kernel, rfl, rfl⟩
theorem r_12_find_35 : RG M_X12_find 35 12 7 38 := ⟨25, _, by decide +kernel, rfl, by decide, wd_f12_25, rfl, rfl⟩
theorem r_12_find_38 : RL M_X12_find 38 2 39 := Or.inl ⟨2, by decide +kernel, rfl, rfl⟩
theorem r_12_find_39 : RW M_X12_find 39 .iaload 40 1 := ⟨by decide +kernel, rfl⟩
theorem r_12_find_40 : RL M_X12_find 40 1 41 := Or.inl ⟨1, by decide +kernel, rfl, rfl⟩
theorem r_12_find_41 : RB M_X12_find 41 (.if_icmp .ne) 82 44 := ⟨41, by decide +kernel, rfl, rfl⟩
theorem r_12_find_82 : RI M_X12_find 82 2 1 85 := ⟨by decide, by decide +kernel, rfl⟩
theorem r_12_find_85 : RB M_X12_find 85 .goto 26 88 := ⟨(-59), by decide +kernel, rfl, rfl⟩
theorem r_12_find_44 : RA M_X12_find 44 0 45 := Or.inl ⟨0, by decide +kernel, rfl, rfl⟩
theorem r_12_find_45 : RG M_X12_find 45 12 8 48 := ⟨28, _, by decide +kernel, rfl, by decide, wd_f12_28, rfl, rfl⟩
theorem r_12_find_48 : RL M_X12_find 48 2 49 := Or.inl ⟨2, by decide +kernel, rfl, rfl⟩
theorem r_12_find_49 : RW M_X12_find 49 .iaload 50 1 := ⟨by decide +kernel, rfl⟩
theorem r_12_find_50 : RC M_X12_find 50 4 51 := ⟨⟨by decide, by decide⟩, Or.inl ⟨by decide +kernel, rfl⟩⟩
theorem r_12_find_51 : RB M_X12_find 51 (.if_icmp .gt) 82 54 := ⟨31, by decide +kernel, rfl, rfl⟩
theorem r_12_find_54 : RA M_X12_find 54 0 55 := Or.inl ⟨0, by decide +kernel, rfl, rfl⟩
theorem r_12_find_55 : RL M_X12_find 55 2 56 := Or.inl ⟨2, by decide +kernel, rfl, rfl⟩
theorem r_12_find_56 : RKv M_X12_find M_X12_couldBe 56 1 12 59 := ⟨495, by decide +kernel, wd_m12_495, ok_M_X12_couldBe, wd_s12_couldBe, rfl⟩
theorem r_12_find_59 : RB M_X12_find 59 (.ifCond .eq) 82 62 := ⟨23, by decide +kernel, rfl, rfl⟩
theorem r_12_find_62 : RA M_X12_find 62 0 63 := Or.inl ⟨0, by decide +kernel, rfl, rfl⟩
theorem r_12_find_63 : RG M_X12_find 63 12 92 66 := ⟨210, _, by decide +kernel, rfl, by decide, wd_f12_210, rfl, rfl⟩
theorem r_12_find_66 : RA M_X12_find 66 0 67 := Or.inl ⟨0, by decide +kernel, rfl, rfl⟩
theorem r_12_find_67 : RG M_X12_find 67 12 93 70 := ⟨492, _, by decide +kernel, rfl, by decide, wd_f12_492, rfl, rfl⟩
theorem r_12_find_70 : RL M_X12_find 70 2 71 := Or.inl ⟨2, by decide +kernel, rfl, rfl⟩
theorem r_12_find_71 : RW M_X12_find 71 .iastore 72 1 := ⟨by decide +kernel, rfl⟩
theorem r_12_find_72 : RA M_X12_find 72 0 73 := Or.inl ⟨0, by decide +kernel, rfl, rfl⟩
theorem r_12_find_73 : RW M_X12_find 73 .dup 74 1 := ⟨by decide +kernel, rfl⟩
theorem r_12_find_74 : RG M_X12_find 74 12 93 77 := ⟨492, _, by decide +kernel, rfl, by decide, wd_f12_492, rfl, rfl⟩
theorem r_12_find_77 : RC M_X12_find 77 1 78 := ⟨⟨by decide, by decide⟩, Or.inl ⟨by decide +kernel, rfl⟩⟩
theorem r_12_find_78 : RW M_X12_find 78 .iadd 79 1 := ⟨by decide +kernel, rfl⟩
theorem r_12_find_79 : RP M_X12_find 79 12 93 82 := ⟨492, _, by decide +kernel, rfl, by decide, wd_f12_492, rfl, Or.inl rfl, rfl⟩
theorem r_12_find_16 : RC M_X12_find 16 (-3) 18 := ⟨⟨by decide, by decide⟩, Or.inr (Or.inl ⟨by decide +kernel, by decide, rfl⟩)⟩
theorem r_12_find_18 : RW M_X12_find 18 .ireturn 19 1 := ⟨by decide +kernel, rfl⟩
theorem r_12_find_7 : RC M_X12_find 7 (-1) 8 := ⟨⟨by decide, by decide⟩, Or.inl ⟨by decide +kernel, rfl⟩⟩
theorem r_12_find_8 : RW M_X12_find 8 .ireturn 9 1 := ⟨by decide +kernel, rfl⟩
theorem r_1_tellFound_0 : RL M_X1_tellFound 0 1 1 := Or.inl ⟨1, by decide +kernel, rfl, rfl⟩
theorem r_1_tellFound_1 : RC M_X1_tellFound 1 (-1) 2 := ⟨⟨by decide, by decide⟩, Or.inl ⟨by decide +kernel, rfl⟩⟩
theorem r_1_tellFound_2 : RB M_X1_tellFound 2 (.if_icmp .ne) 12 5 := ⟨10, by decide +kernel, rfl, rfl⟩
theorem r_1_tellFound_12 : RL M_X1_tellFound 12 1 13 := Or.inl ⟨1, by decide +kernel, rfl, rfl⟩
theorem r_1_tellFound_13 : RB M_X1_tellFound 13 (.ifCond .lt) 33 16 := ⟨20, by decide +kernel, rfl, rfl⟩
theorem r_1_tellFound_33 : RC M_X1_tellFound 33 (-1) 34 := ⟨⟨by decide, by decide⟩, Or.inl ⟨by decide +kernel, rfl⟩⟩
theorem r_1_tellFound_34 : RW M_X1_tellFound 34 .ireturn 35 1 := ⟨by decide +kernel, rfl⟩
theorem r_1_tellFound_16 : RL M_X1_tellFound 16 1 17 := Or.inl ⟨1, by decide +kernel, rfl, rfl⟩
theorem r_1_tellFound_17 : RA M_X1_tellFound 17 0 18 := Or.inl ⟨0, by decide +kernel, rfl, rfl⟩
theorem r_1_tellFound_18 : RG M_X1_tellFound 18 1 15 21 := ⟨180, _, by decide +kernel, rfl, by decide, wd_f1_180, rfl, rfl⟩
theorem r_1_tellFound_21 : RB M_X1_tellFound 21 (.if_icmp .ge) 33 24 := ⟨12, by decide +kernel, rfl, rfl⟩
theorem r_1_tellFound_24 : RA M_X1_tellFound 24 0 25 := Or.inl ⟨0, by decide +kernel, rfl, rfl⟩
theorem r_1_tellFound_25 : RG M_X1_tellFound 25 1 14 28 := ⟨42, _, by decide +kernel, rfl, by decide, wd_f1_42, rfl, rfl⟩
theorem r_1_tellFound_28 : RL M_X1_tellFound 28 1 29 := Or.inl ⟨1, by decide +kernel, rfl, rfl⟩
theorem r_1_tellFound_29 : RW M_X1_tellFound 29 .iaload 30 1 := ⟨by decide +kernel, rfl⟩
theorem r_1_tellFound_30 : RB M_X1_tellFound 30 .goto 34 33 := ⟨4, by decide +kernel, rfl, rfl⟩
theorem r_1_tellFound_5 : RA M_X1_tellFound 5 0 6 := Or.inl ⟨0, by decide +kernel, rfl, rfl⟩
theorem r_1_tellFound_6 : RC M_X1_tellFound 6 0 7 := ⟨⟨by decide, by decide⟩, Or.inl ⟨by decide +kernel, rfl⟩⟩
theorem r_1_tellFound_7 : RP M_X1_tellFound 7 1 13 10 := ⟨174, _, by decide +kernel, rfl, by decide, wd_f1_174, rfl, Or.inl rfl, rfl⟩
theorem r_1_tellFound_10 : RC M_X1_tellFound 10 1 11 := ⟨⟨by decide, by decide⟩, Or.inl ⟨by decide +kernel, rfl⟩⟩
theorem r_1_tellFound_11 : RW M_X1_tellFound 11 .ireturn 12 1 := ⟨by decide +kernel, rfl⟩
theorem r_12_found_0 : RL M_X12_found 0 1 1 := Or.inl ⟨1, by decide +kernel, rfl, rfl⟩
theorem r_12_found_1 : RC M_X12_found 1 (-1) 2 := ⟨⟨by decide, by decide⟩, Or.inl ⟨by decide +kernel, rfl⟩⟩
theorem r_12_found_2 : RB M_X12_found 2 (.if_icmp .ne) 12 5 := ⟨10, by decide +kernel, rfl, rfl⟩
theorem r_12_found_12 : RL M_X12_found 12 1 13 := Or.inl ⟨1, by decide +kernel, rfl, rfl⟩
theorem r_12_found_13 : RB M_X12_found 13 (.ifCond .lt) 33 16 := ⟨20, by decide +kernel, rfl, rfl⟩
theorem r_12_found_33 : RC M_X12_found 33 (-1) 34 := ⟨⟨by decide, by decide⟩, Or.inl ⟨by decide +kernel, rfl⟩⟩
theorem r_12_found_34 : RW M_X12_found 34 .ireturn 35 1 := ⟨by decide +kernel, rfl⟩
theorem r_12_found_16 : RL M_X12_found 16 1 17 := Or.inl ⟨1, by decide +kernel, rfl, rfl⟩
theorem r_12_found_17 : RA M_X12_found 17 0 18 := Or.inl ⟨0, by decide +kernel, rfl, rfl⟩
theorem r_12_found_18 : RG M_X12_found 18 12 93 21 := ⟨492, _, by decide +kernel, rfl, by decide, wd_f12_492, rfl, rfl⟩
theorem r_12_found_21 : RB M_X12_found 21 (.if_icmp .ge) 33 24 := ⟨12, by decide +kernel, rfl, rfl⟩
theorem r_12_found_24 : RA M_X12_found 24 0 25 := Or.inl ⟨0, by decide +kernel, rfl, rfl⟩
theorem r_12_found_25 : RG M_X12_found 25 12 92 28 := ⟨210, _, by decide +kernel, rfl, by decide, wd_f12_210, rfl, rfl⟩
theorem r_12_found_28 : RL M_X12_found 28 1 29 := Or.inl ⟨1, by decide +kernel, rfl, rfl⟩
theorem r_12_found_29 : RW M_X12_found 29 .iaload 30 1 := ⟨by decide +kernel, rfl⟩
theorem r_12_found_30 : RB M_X12_found 30 .goto 34 33 := ⟨4, by decide +kernel, rfl, rfl⟩
theorem r_12_found_5 : RA M_X12_found 5 0 6 := Or.inl ⟨0, by decide +kernel, rfl, rfl⟩
theorem r_12_found_6 : RC M_X12_found 6 0 7 := ⟨⟨by decide, by decide⟩, Or.inl ⟨by decide +kernel, rfl⟩⟩
theorem r_12_found_7 : RP M_X12_found 7 12 91 10 := ⟨489, _, by decide +kernel, rfl, by decide, wd_f12_489, rfl, Or.inl rfl, rfl⟩
theorem r_12_found_10 : RC M_X12_found 10 1 11 := ⟨⟨by decide, by decide⟩, Or.inl ⟨by decide +kernel, rfl⟩⟩
theorem r_12_found_11 : RW M_X12_found 11 .ireturn 12 1 := ⟨by decide +kernel, rfl⟩
theorem r_6_addList_0 : RL M_X6_addList 0 1 1 := Or.inl ⟨1, by decide +kernel, rfl, rfl⟩
theorem r_6_addList_1 : RC M_X6_addList 1 0 2 := ⟨⟨by decide, by decide⟩, Or.inl ⟨by decide +kernel, rfl⟩⟩
theorem r_6_addList_2 : RC M_X6_addList 2 99 4 := ⟨⟨by decide, by decide⟩, Or.inr (Or.inl ⟨by decide +kernel, by decide, rfl⟩)⟩
theorem r_6_addList_4 : RKs M_X6_addList M_X11_within 4 3 7 := ⟨27, by decide +kernel, Or.inr (by decide +kernel), ok_M_X11_within, rfl⟩
theorem r_6_addList_7 : RB M_X6_addList 7 (.ifCond .eq) 20 10 := ⟨13, by decide +kernel, rfl, rfl⟩
theorem r_6_addList_20 : RC M_X6_addList 20 (-1) 21 := ⟨⟨by decide, by decide⟩, Or.inl ⟨by decide +kernel, rfl⟩⟩
theorem r_6_addList_21 : RW M_X6_addList 21 .ireturn 22 1 := ⟨by decide +kernel, rfl⟩
theorem r_6_addList_10 : RL M_X6_addList 10 2 11 := Or.inl ⟨2, by decide +kernel, rfl, rfl⟩
theorem r_6_addList_11 : RC M_X6_addList 11 0 12 := ⟨⟨by decide, by decide⟩, Or.inl ⟨by decide +kernel, rfl⟩⟩
theorem r_6_addList_12 : RC M_X6_addList 12 99 14 := ⟨⟨by decide, by decide⟩, Or.inr (Or.inl ⟨by decide +kernel, by decide, rfl⟩)⟩
theorem r_6_addList_14 : RKs M_X6_addList M_X11_within 14 3 17 := ⟨27, by decide +kernel, Or.inr (by decide +kernel), ok_M_X11_within, rfl⟩
theorem r_6_addList_17 : RB M_X6_addList 17 (.ifCond .ne) 22 20 := ⟨5, by decide +kernel, rfl, rfl⟩
theorem r_6_addList_22 : RA M_X6_addList 22 0 23 := Or.inl ⟨0, by decide +kernel, rfl, rfl⟩
theorem r_6_addList_23 : RG M_X6_addList 23 6 2 26 := ⟨31, _, by decide +kernel, rfl, by decide, wd_f6_31, rfl, rfl⟩
theorem r_6_addList_26 : RC M_X6_addList 26 6 28 := ⟨⟨by decide, by decide⟩, Or.inr (Or.inl ⟨by decide +kernel, by decide, rfl⟩)⟩
theorem r_6_addList_28 : RB M_X6_addList 28 (.if_icmp .lt) 34 31 := ⟨6, by decide +kernel, rfl, rfl⟩
theorem r_6_addList_34 : RA M_X6_addList 34 0 35 := Or.inl ⟨0, by decide +kernel, rfl, rfl⟩
theorem r_6_addList_35 : RG M_X6_addList 35 6 0 38 := ⟨11, _, by decide +kernel, rfl, by decide, wd_f6_11, rfl, rfl⟩
theorem r_6_addList_38 : RA M_X6_addList 38 0 39 := Or.inl ⟨0, by decide +kernel, rfl, rfl⟩
theorem r_6_addList_39 : RG M_X6_addList 39 6 2 42 := ⟨31, _, by decide +kernel, rfl, by decide, wd_f6_31, rfl, rfl⟩
theorem r_6_addList_42 : RL M_X6_addList 42 1 43 := Or.inl ⟨1, by decide +kernel, rfl, rfl⟩
theorem r_6_addList_43 : RW M_X6_addList 43 .iastore 44 1 := ⟨by decide +kernel, rfl⟩
theorem r_6_addList_44 : RA M_X6_addList 44 0 45 := Or.inl ⟨0, by decide +kernel, rfl, rfl⟩
theorem r_6_addList_45 : RG M_X6_addList 45 6 1 48 := ⟨15, _, by decide +kernel, rfl, by decide, wd_f6_15, rfl, rfl⟩
theorem r_6_addList_48 : RA M_X6_addList 48 0 49 := Or.inl ⟨0, by decide +kernel, rfl, rfl⟩
theorem r_6_addList_49 : RG M_X6_addList 49 6 2 52 := ⟨31, _, by decide +kernel, rfl, by decide, wd_f6_31, rfl, rfl⟩
theorem r_6_addList_52 : RL M_X6_addList 52 2 53 := Or.inl ⟨2, by decide +kernel, rfl, rfl⟩
theorem r_6_addList_53 : RW M_X6_addList 53 .iastore 54 1 := ⟨by decide +kernel, rfl⟩
theorem r_6_addList_54 : RA M_X6_addList 54 0 55 := Or.inl ⟨0, by decide +kernel, rfl, rfl⟩
theorem r_6_addList_55 : RW M_X6_addList 55 .dup 56 1 := ⟨by decide +kernel, rfl⟩
theorem r_6_addList_56 : RG M_X6_addList 56 6 2 59 := ⟨31, _, by decide +kernel, rfl, by decide, wd_f6_31, rfl, rfl⟩
theorem r_6_addList_59 : RC M_X6_addList 59 1 60 := ⟨⟨by decide, by decide⟩, Or.inl ⟨by decide +kernel, rfl⟩⟩
theorem r_6_addList_60 : RW M_X6_addList 60 .iadd 61 1 := ⟨by decide +kernel, rfl⟩
theorem r_6_addList_61 : RP M_X6_addList 61 6 2 64 := ⟨31, _, by decide +kernel, rfl, by decide, wd_f6_31, rfl, Or.inl rfl, rfl⟩
theorem r_6_addList_64 : RA M_X6_addList 64 0 65 := Or.inl ⟨0, by decide +kernel, rfl, rfl⟩
theorem r_6_addList_65 : RG M_X6_addList 65 6 2 68 := ⟨31, _, by decide +kernel, rfl, by decide, wd_f6_31, rfl, rfl⟩
theorem r_6_addList_68 : RW M_X6_addList 68 .ireturn 69 1 := ⟨by decide +kernel, rfl⟩
theorem r_6_addList_31 : RC M_X6_addList 31 (-2) 33 := ⟨⟨by decide, by decide⟩, Or.inr (Or.inl ⟨by decide +kernel, by decide, rfl⟩)⟩
theorem r_6_addList_33 : RW M_X6_addList 33 .ireturn 34 1 := ⟨by decide +kernel, rfl⟩
theorem r_12_round_0 : RL M_X12_round 0 1 1 := Or.inl ⟨1, by decide +kernel, rfl, rfl⟩
theorem r_12_round_1 : RC M_X12_round 1 0 2 := ⟨⟨by decide, by decide⟩, Or.inl ⟨by decide +kernel, rfl⟩⟩
theorem r_12_round_2 : RC M_X12_round 2 99 4 := ⟨⟨by decide, by decide⟩, Or.inr (Or.inl ⟨by decide +kernel, by decide, rfl⟩)⟩
theorem r_12_round_4 : RKs M_X12_round M_X12_within 4 3 7 := ⟨240, by decide +kernel, Or.inl wd_m12_240, ok_M_X12_within, rfl⟩
theorem r_12_round_7 : RB M_X12_round 7 (.ifCond .eq) 20 10 := ⟨13, by decide +kernel, rfl, rfl⟩
theorem r_12_round_20 : RC M_X12_round 20 (-1) 21 := ⟨⟨by decide, by decide⟩, Or.inl ⟨by decide +kernel, rfl⟩⟩
theorem r_12_round_21 : RW M_X12_round 21 .ireturn 22 1 := ⟨by decide +kernel, rfl⟩
theorem r_12_round_10 : RL M_X12_round 10 2 11 := Or.inl ⟨2, by decide +kernel, rfl, rfl⟩
theorem r_12_round_11 : RC M_X12_round 11 0 12 := ⟨⟨by decide, by decide⟩, Or.inl ⟨by decide +kernel, rfl⟩⟩
theorem r_12_round_12 : RC M_X12_round 12 99 14 := ⟨⟨by decide, by decide⟩, Or.inr (Or.inl ⟨by decide +kernel, by decide, rfl⟩)⟩
theorem r_12_round_14 : RKs M_X12_round M_X12_within 14 3 17 := ⟨240, by decide +kernel, Or.inl wd_m12_240, ok_M_X12_within, rfl⟩
theorem r_12_round_17 : RB M_X12_round 17 (.ifCond .ne) 22 20 := ⟨5, by decide +kernel, rfl, rfl⟩
theorem r_12_round_22 : RA M_X12_round 22 0 23 := Or.inl ⟨0, by decide +kernel, rfl, rfl⟩
theorem r_12_round_23 : RG M_X12_round 23 12 96 26 := ⟨498, _, by decide +kernel, rfl, by decide, wd_f12_498, rfl, rfl⟩
theorem r_12_round_26 : RC M_X12_round 26 6 28 := ⟨⟨by decide, by decide⟩, Or.inr (Or.inl ⟨by decide +kernel, by decide, rfl⟩)⟩
theorem r_12_round_28 : RB M_X12_round 28 (.if_icmp .ne) 34 31 := ⟨6, by decide +kernel, rfl, rfl⟩
theorem r_12_round_34 : RA M_X12_round 34 0 35 := Or.inl ⟨0, by decide +kernel, rfl, rfl⟩
theorem r_12_round_35 : RG M_X12_round 35 12 94 38 := ⟨213, _, by decide +kernel, rfl, by decide, wd_f12_213, rfl, rfl⟩
theorem r_12_round_38 : RA M_X12_round 38 0 39 := Or.inl ⟨0, by decide +kernel, rfl, rfl⟩
theorem r_12_round_39 : RG M_X12_round 39 12 96 42 := ⟨498, _, by decide +kernel, rfl, by decide, wd_f12_498, rfl, rfl⟩
theorem r_12_round_42 : RL M_X12_round 42 1 43 := Or.inl ⟨1, by decide +kernel, rfl, rfl⟩
theorem r_12_round_43 : RW M_X12_round 43 .iastore 44 1 := ⟨by decide +kernel, rfl⟩
theorem r_12_round_44 : RA M_X12_round 44 0 45 := Or.inl ⟨0, by decide +kernel, rfl, rfl⟩
theorem r_12_round_45 : RG M_X12_round 45 12 95 48 := ⟨216, _, by decide +kernel, rfl, by decide, wd_f12_216, rfl, rfl⟩
theorem r_12_round_48 : RA M_X12_round 48 0 49 := Or.inl ⟨0, by decide +kernel, rfl, rfl⟩
theorem r_12_round_49 : RG M_X12_round 49 12 96 52 := ⟨498, _, by decide +kernel, rfl, by decide, wd_f12_498, rfl, rfl⟩
theorem r_12_round_52 : RL M_X12_round 52 2 53 := Or.inl ⟨2, by decide +kernel, rfl, rfl⟩
theorem r_12_round_53 : RW M_X12_round 53 .iastore 54 1 := ⟨by decide +kernel, rfl⟩
theorem r_12_round_54 : RA M_X12_round 54 0 55 := Or.inl ⟨0, by decide +kernel, rfl, rfl⟩
theorem r_12_round_55 : RW M_X12_round 55 .dup 56 1 := ⟨by decide +kernel, rfl⟩
theorem r_12_round_56 : RG M_X12_round 56 12 96 59 := ⟨498, _, by decide +kernel, rfl, by decide, wd_f12_498, rfl, rfl⟩
theorem r_12_round_59 : RC M_X12_round 59 1 60 := ⟨⟨by decide, by decide⟩, Or.inl ⟨by decide +kernel, rfl⟩⟩
theorem r_12_round_60 : RW M_X12_round 60 .iadd 61 1 := ⟨by decide +kernel, rfl⟩
theorem r_12_round_61 : RP M_X12_round 61 12 96 64 := ⟨498, _, by decide +kernel, rfl, by decide, wd_f12_498, rfl, Or.inl rfl, rfl⟩
theorem r_12_round_64 : RA M_X12_round 64 0 65 := Or.inl ⟨0, by decide +kernel, rfl, rfl⟩
theorem r_12_round_65 : RG M_X12_round 65 12 96 68 := ⟨498, _, by decide +kernel, rfl, by decide, wd_f12_498, rfl, rfl⟩
theorem r_12_round_68 : RW M_X12_round 68 .ireturn 69 1 := ⟨by decide +kernel, rfl⟩
theorem r_12_round_31 : RC M_X12_round 31 (-2) 33 := ⟨⟨by decide, by decide⟩, Or.inr (Or.inl ⟨by decide +kernel, by decide, rfl⟩)⟩
theorem r_12_round_33 : RW M_X12_round 33 .ireturn 34 1 := ⟨by decide +kernel, rfl⟩
theorem r_6_addAim_0 : RL M_X6_addAim 0 1 1 := Or.inl ⟨1, by decide +kernel, rfl, rfl⟩
theorem r_6_addAim_1 : RC M_X6_addAim 1 1 2 := ⟨⟨by decide, by decide⟩, Or.inl ⟨by decide +kernel, rfl⟩⟩
theorem r_6_addAim_2 : RC M_X6_addAim 2 999 5 := ⟨⟨by decide, by decide⟩, Or.inr (Or.inr (Or.inl ⟨by decide +kernel, by decide, rfl⟩))⟩
theorem r_6_addAim_5 : RKs M_X6_addAim M_X11_within 5 3 8 := ⟨27, by decide +kernel, Or.inr (by decide +kernel), ok_M_X11_within, rfl⟩
theorem r_6_addAim_8 : RB M_X6_addAim 8 (.ifCond .ne) 13 11 := ⟨5, by decide +kernel, rfl, rfl⟩
theorem r_6_addAim_13 : RA M_X6_addAim 13 0 14 := Or.inl ⟨0, by decide +kernel, rfl, rfl⟩
theorem r_6_addAim_14 : RG M_X6_addAim 14 6 4 17 := ⟨35, _, by decide +kernel, rfl, by decide, wd_f6_35, rfl, rfl⟩
theorem r_6_addAim_17 : RC M_X6_addAim 17 4 18 := ⟨⟨by decide, by decide⟩, Or.inl ⟨by decide +kernel, rfl⟩⟩
theorem r_6_addAim_18 : RB M_X6_addAim 18 (.if_icmp .lt) 24 21 := ⟨6, by decide +kernel, rfl, rfl⟩
theorem r_6_addAim_24 : RA M_X6_addAim 24 0 25 := Or.inl ⟨0, by decide +kernel, rfl, rfl⟩
theorem r_6_addAim_25 : RG M_X6_addAim 25 6 3 28 := ⟨18, _, by decide +kernel, rfl, by decide, wd_f6_18, rfl, rfl⟩
theorem r_6_addAim_28 : RA M_X6_addAim 28 0 29 := Or.inl ⟨0, by decide +kernel, rfl, rfl⟩
theorem r_6_addAim_29 : RG M_X6_addAim 29 6 4 32 := ⟨35, _, by decide +kernel, rfl, by decide, wd_f6_35, rfl, rfl⟩
theorem r_6_addAim_32 : RL M_X6_addAim 32 1 33 := Or.inl ⟨1, by decide +kernel, rfl, rfl⟩
theorem r_6_addAim_33 : RW M_X6_addAim 33 .iastore 34 1 := ⟨by decide +kernel, rfl⟩
theorem r_6_addAim_34 : RA M_X6_addAim 34 0 35 := Or.inl ⟨0, by decide +kernel, rfl, rfl⟩
theorem r_6_addAim_35 : RW M_X6_addAim 35 .dup 36 1 := ⟨by decide +kernel, rfl⟩
theorem r_6_addAim_36 : RG M_X6_addAim 36 6 4 39 := ⟨35, _, by decide +kernel, rfl, by decide, wd_f6_35, rfl, rfl⟩
theorem r_6_addAim_39 : RC M_X6_addAim 39 1 40 := ⟨⟨by decide, by decide⟩, Or.inl ⟨by decide +kernel, rfl⟩⟩
theorem r_6_addAim_40 : RW M_X6_addAim 40 .iadd 41 1 := ⟨by decide +kernel, rfl⟩
theorem r_6_addAim_41 : RP M_X6_addAim 41 6 4 44 := ⟨35, _, by decide +kernel, rfl, by decide, wd_f6_35, rfl, Or.inl rfl, rfl⟩
theorem r_6_addAim_44 : RA M_X6_addAim 44 0 45 := Or.inl ⟨0, by decide +kernel, rfl, rfl⟩
theorem r_6_addAim_45 : RG M_X6_addAim 45 6 4 48 := ⟨35, _, by decide +kernel, rfl, by decide, wd_f6_35, rfl, rfl⟩
theorem r_6_addAim_48 : RW M_X6_addAim 48 .ireturn 49 1 := ⟨by decide +kernel, rfl⟩
theorem r_6_addAim_21 : RC M_X6_addAim 21 (-2) 23 := ⟨⟨by decide, by decide⟩, Or.inr (Or.inl ⟨by decide +kernel, by decide, rfl⟩)⟩
theorem r_6_addAim_23 : RW M_X6_addAim 23 .ireturn 24 1 := ⟨by decide +kernel, rfl⟩
theorem r_6_addAim_11 : RC M_X6_addAim 11 (-1) 12 := ⟨⟨by decide, by decide⟩, Or.inl ⟨by decide +kernel, rfl⟩⟩
theorem r_6_addAim_12 : RW M_X6_addAim 12 .ireturn 13 1 := ⟨by decide +kernel, rfl⟩
theorem r_12_aim_0 : RL M_X12_aim 0 1 1 := Or.inl ⟨1, by decide +kernel, rfl, rfl⟩
theorem r_12_aim_1 : RC M_X12_aim 1 1 2 := ⟨⟨by decide, by decide⟩, Or.inl ⟨by decide +kernel, rfl⟩⟩
theorem r_12_aim_2 : RC M_X12_aim 2 999 5 := ⟨⟨by decide, by decide⟩, Or.inr (Or.inr (Or.inl ⟨by decide +kernel, by decide, rfl⟩))⟩
theorem r_12_aim_5 : RKs M_X12_aim M_X12_within 5 3 8 := ⟨240, by decide +kernel, Or.inl wd_m12_240, ok_M_X12_within, rfl⟩
theorem r_12_aim_8 : RB M_X12_aim 8 (.ifCond .ne) 13 11 := ⟨5, by decide +kernel, rfl, rfl⟩
theorem r_12_aim_13 : RA M_X12_aim 13 0 14 := Or.inl ⟨0, by decide +kernel, rfl, rfl⟩
theorem r_12_aim_14 : RG M_X12_aim 14 12 98 17 := ⟨501, _, by decide +kernel, rfl, by decide, wd_f12_501, rfl, rfl⟩
theorem r_12_aim_17 : RC M_X12_aim 17 4 18 := ⟨⟨by decide, by decide⟩, Or.inl ⟨by decide +kernel, rfl⟩⟩
theorem r_12_aim_18 : RB M_X12_aim 18 (.if_icmp .ne) 24 21 := ⟨6, by decide +kernel, rfl, rfl⟩
theorem r_12_aim_24 : RA M_X12_aim 24 0 25 := Or.inl ⟨0, by decide +kernel, rfl, rfl⟩
theorem r_12_aim_25 : RG M_X12_aim 25 12 97 28 := ⟨219, _, by decide +kernel, rfl, by decide, wd_f12_219, rfl, rfl⟩
theorem r_12_aim_28 : RA M_X12_aim 28 0 29 := Or.inl ⟨0, by decide +kernel, rfl, rfl⟩
theorem r_12_aim_29 : RG M_X12_aim 29 12 98 32 := ⟨501, _, by decide +kernel, rfl, by decide, wd_f12_501, rfl, rfl⟩
theorem r_12_aim_32 : RL M_X12_aim 32 1 33 := Or.inl ⟨1, by decide +kernel, rfl, rfl⟩
theorem r_12_aim_33 : RW M_X12_aim 33 .iastore 34 1 := ⟨by decide +kernel, rfl⟩
theorem r_12_aim_34 : RA M_X12_aim 34 0 35 := Or.inl ⟨0, by decide +kernel, rfl, rfl⟩
theorem r_12_aim_35 : RW M_X12_aim 35 .dup 36 1 := ⟨by decide +kernel, rfl⟩
theorem r_12_aim_36 : RG M_X12_aim 36 12 98 39 := ⟨501, _, by decide +kernel, rfl, by decide, wd_f12_501, rfl, rfl⟩
theorem r_12_aim_39 : RC M_X12_aim 39 1 40 := ⟨⟨by decide, by decide⟩, Or.inl ⟨by decide +kernel, rfl⟩⟩
theorem r_12_aim_40 : RW M_X12_aim 40 .iadd 41 1 := ⟨by decide +kernel, rfl⟩
theorem r_12_aim_41 : RP M_X12_aim 41 12 98 44 := ⟨501, _, by decide +kernel, rfl, by decide, wd_f12_501, rfl, Or.inl rfl, rfl⟩
theorem r_12_aim_44 : RA M_X12_aim 44 0 45 := Or.inl ⟨0, by decide +kernel, rfl, rfl⟩
theorem r_12_aim_45 : RG M_X12_aim 45 12 98 48 := ⟨501, _, by decide +kernel, rfl, by decide, wd_f12_501, rfl, rfl⟩
theorem r_12_aim_48 : RW M_X12_aim 48 .ireturn 49 1 := ⟨by decide +kernel, rfl⟩
theorem r_12_aim_21 : RC M_X12_aim 21 (-2) 23 := ⟨⟨by decide, by decide⟩, Or.inr (Or.inl ⟨by decide +kernel, by decide, rfl⟩)⟩
theorem r_12_aim_23 : RW M_X12_aim 23 .ireturn 24 1 := ⟨by decide +kernel, rfl⟩
theorem r_12_aim_11 : RC M_X12_aim 11 (-1) 12 := ⟨⟨by decide, by decide⟩, Or.inl ⟨by decide +kernel, rfl⟩⟩
theorem r_12_aim_12 : RW M_X12_aim 12 .ireturn 13 1 := ⟨by decide +kernel, rfl⟩
theorem r_6_tellOrder_0 : RL M_X6_tellOrder 0 1 1 := Or.inl ⟨1, by decide +kernel, rfl, rfl⟩
theorem r_6_tellOrder_1 : RB M_X6_tellOrder 1 (.ifCond .lt) 21 4 := ⟨20, by decide +kernel, rfl, rfl⟩
theorem r_6_tellOrder_21 : RC M_X6_tellOrder 21 (-1) 22 := ⟨⟨by decide, by decide⟩, Or.inl ⟨by decide +kernel, rfl⟩⟩
theorem r_6_tellOrder_22 : RW M_X6_tellOrder 22 .ireturn 23 1 := ⟨by decide +kernel, rfl⟩
theorem r_6_tellOrder_4 : RL M_X6_tellOrder 4 1 5 := Or.inl ⟨1, by decide +kernel, rfl, rfl⟩
theorem r_6_tellOrder_5 : RA M_X6_tellOrder 5 0 6 := Or.inl ⟨0, by decide +kernel, rfl, rfl⟩
theorem r_6_tellOrder_6 : RG M_X6_tellOrder 6 6 8 9 := ⟨41, _, by decide +kernel, rfl, by decide, wd_f6_41, rfl, rfl⟩
theorem r_6_tellOrder_9 : RB M_X6_tellOrder 9 (.if_icmp .ge) 21 12 := ⟨12, by decide +kernel, rfl, rfl⟩
theorem r_6_tellOrder_12 : RA M_X6_tellOrder 12 0 13 := Or.inl ⟨0, by decide +kernel, rfl, rfl⟩
theorem r_6_tellOrder_13 : RG M_X6_tellOrder 13 6 7 16 := ⟨24, _, by decide +kernel, rfl, by decide, wd_f6_24, rfl, rfl⟩
theorem r_6_tellOrder_16 : RL M_X6_tellOrder 16 1 17 := Or.inl ⟨1, by decide +kernel, rfl, rfl⟩
theorem r_6_tellOrder_17 : RW M_X6_tellOrder 17 .iaload 18 1 := ⟨by decide +kernel, rfl⟩
theorem r_6_tellOrder_18 : RB M_X6_tellOrder 18 .goto 22 21 := ⟨4, by decide +kernel, rfl, rfl⟩
theorem r_12_ordered_0 : RL M_X12_ordered 0 1 1 := Or.inl ⟨1, by decide +kernel, rfl, rfl⟩
theorem r_12_ordered_1 : RB M_X12_ordered 1 (.ifCond .lt) 21 4 := ⟨20, by decide +kernel, rfl, rfl⟩
theorem r_12_ordered_21 : RC M_X12_ordered 21 (-1) 22 := ⟨⟨by decide, by decide⟩, Or.inl ⟨by decide +kernel, rfl⟩⟩
theorem r_12_ordered_22 : RW M_X12_ordered 22 .ireturn 23 1 := ⟨by decide +kernel, rfl⟩
theorem r_12_ordered_4 : RL M_X12_ordered 4 1 5 := Or.inl ⟨1, by decide +kernel, rfl, rfl⟩
theorem r_12_ordered_5 : RA M_X12_ordered 5 0 6 := Or.inl ⟨0, by decide +kernel, rfl, rfl⟩
theorem r_12_ordered_6 : RG M_X12_ordered 6 12 101 9 := ⟨513, _, by decide +kernel, rfl, by decide, wd_f12_513, rfl, rfl⟩
theorem r_12_ordered_9 : RB M_X12_ordered 9 (.if_icmp .ge) 21 12 := ⟨12, by decide +kernel, rfl, rfl⟩
theorem r_12_ordered_12 : RA M_X12_ordered 12 0 13 := Or.inl ⟨0, by decide +kernel, rfl, rfl⟩
theorem r_12_ordered_13 : RG M_X12_ordered 13 12 100 16 := ⟨225, _, by decide +kernel, rfl, by decide, wd_f12_225, rfl, rfl⟩
theorem r_12_ordered_16 : RL M_X12_ordered 16 1 17 := Or.inl ⟨1, by decide +kernel, rfl, rfl⟩
theorem r_12_ordered_17 : RW M_X12_ordered 17 .iaload 18 1 := ⟨by decide +kernel, rfl⟩
theorem r_12_ordered_18 : RB M_X12_ordered 18 .goto 22 21 := ⟨4, by decide +kernel, rfl, rfl⟩
theorem r_1_tellTrace_0 : RL M_X1_tellTrace 0 1 1 := Or.inl ⟨1, by decide +kernel, rfl, rfl⟩
theorem r_1_tellTrace_1 : RB M_X1_tellTrace 1 (.ifCond .lt) 21 4 := ⟨20, by decide +kernel, rfl, rfl⟩
theorem r_1_tellTrace_21 : RC M_X1_tellTrace 21 (-1) 22 := ⟨⟨by decide, by decide⟩, Or.inl ⟨by decide +kernel, rfl⟩⟩
theorem r_1_tellTrace_22 : RW M_X1_tellTrace 22 .ireturn 23 1 := ⟨by decide +kernel, rfl⟩
theorem r_1_tellTrace_4 : RL M_X1_tellTrace 4 1 5 := Or.inl ⟨1, by decide +kernel, rfl, rfl⟩
theorem r_1_tellTrace_5 : RA M_X1_tellTrace 5 0 6 := Or.inl ⟨0, by decide +kernel, rfl, rfl⟩
theorem r_1_tellTrace_6 : RG M_X1_tellTrace 6 1 17 9 := ⟨194, _, by decide +kernel, rfl, by decide, wd_f1_194, rfl, rfl⟩
theorem r_1_tellTrace_9 : RB M_X1_tellTrace 9 (.if_icmp .ge) 21 12 := ⟨12, by decide +kernel, rfl, rfl⟩
theorem r_1_tellTrace_12 : RA M_X1_tellTrace 12 0 13 := Or.inl ⟨0, by decide +kernel, rfl, rfl⟩
theorem r_1_tellTrace_13 : RG M_X1_tellTrace 13 1 16 16 := ⟨45, _, by decide +kernel, rfl, by decide, wd_f1_45, rfl, rfl⟩
theorem r_1_tellTrace_16 : RL M_X1_tellTrace 16 1 17 := Or.inl ⟨1, by decide +kernel, rfl, rfl⟩
theorem r_1_tellTrace_17 : RW M_X1_tellTrace 17 .iaload 18 1 := ⟨by decide +kernel, rfl⟩
theorem r_1_tellTrace_18 : RB M_X1_tellTrace 18 .goto 22 21 := ⟨4, by decide +kernel, rfl, rfl⟩
theorem r_12_trace_0 : RL M_X12_trace 0 1 1 := Or.inl ⟨1, by decide +kernel, rfl, rfl⟩
theorem r_12_trace_1 : RB M_X12_trace 1 (.ifCond .lt) 27 4 := ⟨26, by decide +kernel, rfl, rfl⟩
theorem r_12_trace_27 : RC M_X12_trace 27 (-1) 28 := ⟨⟨by decide, by decide⟩, Or.inl ⟨by decide +kernel, rfl⟩⟩
theorem r_12_trace_28 : RW M_X12_trace 28 .ireturn 29 1 := ⟨by decide +kernel, rfl⟩
theorem r_12_trace_4 : RL M_X12_trace 4 1 5 := Or.inl ⟨1, by decide +kernel, rfl, rfl⟩
theorem r_12_trace_5 : RA M_X12_trace 5 0 6 := Or.inl ⟨0, by decide +kernel, rfl, rfl⟩
theorem r_12_trace_6 : RG M_X12_trace 6 12 104 9 := ⟨516, _, by decide +kernel, rfl, by decide, wd_f12_516, rfl, rfl⟩
theorem r_12_trace_9 : RB M_X12_trace 9 (.if_icmp .ge) 27 12 := ⟨18, by decide +kernel, rfl, rfl⟩
theorem r_12_trace_12 : RL M_X12_trace 12 1 13 := Or.inl ⟨1, by decide +kernel, rfl, rfl⟩
theorem r_12_trace_13 : RC M_X12_trace 13 24 15 := ⟨⟨by decide, by decide⟩, Or.inr (Or.inl ⟨by decide +kernel, by decide, rfl⟩)⟩
theorem r_12_trace_15 : RB M_X12_trace 15 (.if_icmp .ge) 27 18 := ⟨12, by decide +kernel, rfl, rfl⟩
theorem r_12_trace_18 : RA M_X12_trace 18 0 19 := Or.inl ⟨0, by decide +kernel, rfl, rfl⟩
theorem r_12_trace_19 : RG M_X12_trace 19 12 103 22 := ⟨228, _, by decide +kernel, rfl, by decide, wd_f12_228, rfl, rfl⟩
theorem r_12_trace_22 : RL M_X12_trace 22 1 23 := Or.inl ⟨1, by decide +kernel, rfl, rfl⟩
theorem r_12_trace_23 : RW M_X12_trace 23 .iaload 24 1 := ⟨by decide +kernel, rfl⟩
theorem r_12_trace_24 : RB M_X12_trace 24 .goto 28 27 := ⟨4, by decide +kernel, rfl, rfl⟩
theorem r_11_offer_0 : RA M_X11_offer 0 0 1 := Or.inl ⟨0, by decide +kernel, rfl, rfl⟩
theorem r_11_offer_1 : RG M_X11_offer 1 11 5 4 := ⟨55, _, by decide +kernel, rfl, by decide, wd_f11_55, rfl, rfl⟩
theorem r_11_offer_4 : RL M_X11_offer 4 1 5 := Or.inl ⟨1, by decide +kernel, rfl, rfl⟩
theorem r_11_offer_5 : RKv M_X11_offer M_X10_addOffer 5 1 10 8 := ⟨178, by decide +kernel, wd_m11_178, ok_M_X10_addOffer, wd_s10_addOffer, rfl⟩
theorem r_11_offer_8 : RW M_X11_offer 8 .ireturn 9 1 := ⟨by decide +kernel, rfl⟩
theorem r_11_ratio_0 : RA M_X11_ratio 0 0 1 := Or.inl ⟨0, by decide +kernel, rfl, rfl⟩
theorem r_11_ratio_1 : RG M_X11_ratio 1 11 5 4 := ⟨55, _, by decide +kernel, rfl, by decide, wd_f11_55, rfl, rfl⟩
theorem r_11_ratio_4 : RL M_X11_ratio 4 1 5 := Or.inl ⟨1, by decide +kernel, rfl, rfl⟩
theorem r_11_ratio_5 : RKv M_X11_ratio M_X10_setRatio 5 1 10 8 := ⟨181, by decide +kernel, wd_m11_181, ok_M_X10_setRatio, wd_s10_setRatio, rfl⟩
theorem r_11_ratio_8 : RW M_X11_ratio 8 .ireturn 9 1 := ⟨by decide +kernel, rfl⟩
theorem r_11_bestOf_0 : RA M_X11_bestOf 0 0 1 := Or.inl ⟨0, by decide +kernel, rfl, rfl⟩
theorem r_11_bestOf_1 : RG M_X11_bestOf 1 11 5 4 := ⟨55, _, by decide +kernel, rfl, by decide, wd_f11_55, rfl, rfl⟩
theorem r_11_bestOf_4 : RL M_X11_bestOf 4 1 5 := Or.inl ⟨1, by decide +kernel, rfl, rfl⟩
theorem r_11_bestOf_5 : RKv M_X11_bestOf M_X10_tellBest 5 1 10 8 := ⟨190, by decide +kernel, wd_m11_190, ok_M_X10_tellBest, wd_s10_tellBest, rfl⟩
theorem r_11_bestOf_8 : RW M_X11_bestOf 8 .ireturn 9 1 := ⟨by decide +kernel, rfl⟩
theorem r_11_load_0 : RA M_X11_load 0 0 1 := Or.inl ⟨0, by decide +kernel, rfl, rfl⟩
theorem r_11_load_1 : RG M_X11_load 1 11 6 4 := ⟨64, _, by decide +kernel, rfl, by decide, wd_f11_64, rfl, rfl⟩
theorem r_11_load_4 : RL M_X11_load 4 1 5 := Or.inl ⟨1, by decide +kernel, rfl, rfl⟩
theorem r_11_load_5 : RL M_X11_load 5 2 6 := Or.inl ⟨2, by decide +kernel, rfl, rfl⟩
theorem r_11_load_6 : RL M_X11_load 6 3 7 := Or.inl ⟨3, by decide +kernel, rfl, rfl⟩
theorem r_11_load_7 : RKv M_X11_load M_X7_addCamp 7 3 7 10 := ⟨193, by decide +kernel, wd_m11_193, ok_M_X7_addCamp, wd_s7_addCamp, rfl⟩
theorem r_11_load_10 : RW M_X11_load 10 .ireturn 11 1 := ⟨by decide +kernel, rfl⟩
theorem r_11_voyage_0 : RA M_X11_voyage 0 0 1 := Or.inl ⟨0, by decide +kernel, rfl, rfl⟩
theorem r_11_voyage_1 : RG M_X11_voyage 1 11 6 4 := ⟨64, _, by decide +kernel, rfl, by decide, wd_f11_64, rfl, rfl⟩
theorem r_11_voyage_4 : RL M_X11_voyage 4 1 5 := Or.inl ⟨1, by decide +kernel, rfl, rfl⟩
theorem r_11_voyage_5 : RL M_X11_voyage 5 2 6 := Or.inl ⟨2, by decide +kernel, rfl, rfl⟩
theorem r_11_voyage_6 : RKv M_X11_voyage M_X7_tellVoyage 6 2 7 9 := ⟨198, by decide +kernel, wd_m11_198, ok_M_X7_tellVoyage, wd_s7_tellVoyage, rfl⟩
theorem r_11_voyage_9 : RW M_X11_voyage 9 .ireturn 10 1 := ⟨by decide +kernel, rfl⟩
theorem r_11_walker_0 : RA M_X11_walker 0 0 1 := Or.inl ⟨0, by decide +kernel, rfl, rfl⟩
theorem r_11_walker_1 : RG M_X11_walker 1 11 7 4 := ⟨71, _, by decide +kernel, rfl, by decide, wd_f11_71, rfl, rfl⟩
theorem r_11_walker_4 : RL M_X11_walker 4 1 5 := Or.inl ⟨1, by decide +kernel, rfl, rfl⟩
theorem r_11_walker_5 : RL M_X11_walker 5 2 6 := Or.inl ⟨2, by decide +kernel, rfl, rfl⟩
theorem r_11_walker_6 : RKv M_X11_walker M_X0_addWalker 6 2 0 9 := ⟨201, by decide +kernel, wd_m11_201, ok_M_X0_addWalker, wd_s0_addWalker, rfl⟩
theorem r_11_walker_9 : RW M_X11_walker 9 .ireturn 10 1 := ⟨by decide +kernel, rfl⟩
theorem r_11_began_0 : RA M_X11_began 0 0 1 := Or.inl ⟨0, by decide +kernel, rfl, rfl⟩
theorem r_11_began_1 : RG M_X11_began 1 11 7 4 := ⟨71, _, by decide +kernel, rfl, by decide, wd_f11_71, rfl, rfl⟩
theorem r_11_began_4 : RL M_X11_began 4 1 5 := Or.inl ⟨1, by decide +kernel, rfl, rfl⟩
theorem r_11_began_5 : RKv M_X11_began M_X0_tellBegan 5 1 0 8 := ⟨207, by decide +kernel, wd_m11_207, ok_M_X0_tellBegan, wd_s0_tellBegan, rfl⟩
theorem r_11_began_8 : RW M_X11_began 8 .ireturn 9 1 := ⟨by decide +kernel, rfl⟩
theorem r_11_sought_0 : RA M_X11_sought 0 0 1 := Or.inl ⟨0, by decide +kernel, rfl, rfl⟩
theorem r_11_sought_1 : RG M_X11_sought 1 11 1 4 := ⟨21, _, by decide +kernel, rfl, by decide, wd_f11_21, rfl, rfl⟩
theorem r_11_sought_4 : RL M_X11_sought 4 1 5 := Or.inl ⟨1, by decide +kernel, rfl, rfl⟩
theorem r_11_sought_5 : RL M_X11_sought 5 2 6 := Or.inl ⟨2, by decide +kernel, rfl, rfl⟩
theorem r_11_sought_6 : RL M_X11_sought 6 3 7 := Or.inl ⟨3, by decide +kernel, rfl, rfl⟩
theorem r_11_sought_7 : RKv M_X11_sought M_X1_addSought 7 3 1 10 := ⟨210, by decide +kernel, wd_m11_210, ok_M_X1_addSought, wd_s1_addSought, rfl⟩
theorem r_11_sought_10 : RW M_X11_sought 10 .ireturn 11 1 := ⟨by decide +kernel, rfl⟩
theorem r_11_find_0 : RA M_X11_find 0 0 1 := Or.inl ⟨0, by decide +kernel, rfl, rfl⟩
theorem r_11_find_1 : RG M_X11_find 1 11 1 4 := ⟨21, _, by decide +kernel, rfl, by decide, wd_f11_21, rfl, rfl⟩
theorem r_11_find_4 : RL M_X11_find 4 1 5 := Or.inl ⟨1, by decide +kernel, rfl, rfl⟩
theorem r_11_find_5 : RKv M_X11_find M_X1_seek 5 1 1 8 := ⟨213, by decide +kernel, wd_m11_213, ok_M_X1_seek, wd_s1_seek, rfl⟩
theorem r_11_find_8 : RW M_X11_find 8 .ireturn 9 1 := ⟨by decide +kernel, rfl⟩
theorem r_11_found_0 : RA M_X11_found 0 0 1 := Or.inl ⟨0, by decide +kernel, rfl, rfl⟩
theorem r_11_found_1 : RG M_X11_found 1 11 1 4 := ⟨21, _, by decide +kernel, rfl, by decide, wd_f11_21, rfl, rfl⟩
theorem r_11_found_4 : RL M_X11_found 4 1 5 := Or.inl ⟨1, by decide +kernel, rfl, rfl⟩
theorem r_11_found_5 : RKv M_X11_found M_X1_tellFound 5 1 1 8 := ⟨216, by decide +kernel, wd_m11_216, ok_M_X1_tellFound, wd_s1_tellFound, rfl⟩
theorem r_11_found_8 : RW M_X11_found 8 .ireturn 9 1 := ⟨by decide +kernel, rfl⟩
theorem r_11_round_0 : RA M_X11_round 0 0 1 := Or.inl ⟨0, by decide +kernel, rfl, rfl⟩
theorem r_11_round_1 : RG M_X11_round 1 11 8 4 := ⟨78, _, by decide +kernel, rfl, by decide, wd_f11_78, rfl, rfl⟩
theorem r_11_round_4 : RL M_X11_round 4 1 5 := Or.inl ⟨1, by decide +kernel, rfl, rfl⟩
theorem r_11_round_5 : RL M_X11_round 5 2 6 := Or.inl ⟨2, by decide +kernel, rfl, rfl⟩
theorem r_11_round_6 : RKv M_X11_round M_X6_addList 6 2 6 9 := ⟨219, by decide +kernel, wd_m11_219, ok_M_X6_addList, wd_s6_addList, rfl⟩
theorem r_11_round_9 : RW M_X11_round 9 .ireturn 10 1 := ⟨by decide +kernel, rfl⟩
theorem r_11_aim_0 : RA M_X11_aim 0 0 1 := Or.inl ⟨0, by decide +kernel, rfl, rfl⟩
theorem r_11_aim_1 : RG M_X11_aim 1 11 8 4 := ⟨78, _, by decide +kernel, rfl, by decide, wd_f11_78, rfl, rfl⟩
theorem r_11_aim_4 : RL M_X11_aim 4 1 5 := Or.inl ⟨1, by decide +kernel, rfl, rfl⟩
theorem r_11_aim_5 : RKv M_X11_aim M_X6_addAim 5 1 6 8 := ⟨222, by decide +kernel, wd_m11_222, ok_M_X6_addAim, wd_s6_addAim, rfl⟩
theorem r_11_aim_8 : RW M_X11_aim 8 .ireturn 9 1 := ⟨by decide +kernel, rfl⟩
theorem r_11_ordered_0 : RA M_X11_ordered 0 0 1 := Or.inl ⟨0, by decide +kernel, rfl, rfl⟩
theorem r_11_ordered_1 : RG M_X11_ordered 1 11 8 4 := ⟨78, _, by decide +kernel, rfl, by decide, wd_f11_78, rfl, rfl⟩
theorem r_11_ordered_4 : RL M_X11_ordered 4 1 5 := Or.inl ⟨1, by decide +kernel, rfl, rfl⟩
theorem r_11_ordered_5 : RKv M_X11_ordered M_X6_tellOrder 5 1 6 8 := ⟨228, by decide +kernel, wd_m11_228, ok_M_X6_tellOrder, wd_s6_tellOrder, rfl⟩
theorem r_11_ordered_8 : RW M_X11_ordered 8 .ireturn 9 1 := ⟨by decide +kernel, rfl⟩
theorem r_11_trace_0 : RA M_X11_trace 0 0 1 := Or.inl ⟨0, by decide +kernel, rfl, rfl⟩
theorem r_11_trace_1 : RG M_X11_trace 1 11 1 4 := ⟨21, _, by decide +kernel, rfl, by decide, wd_f11_21, rfl, rfl⟩
theorem r_11_trace_4 : RL M_X11_trace 4 1 5 := Or.inl ⟨1, by decide +kernel, rfl, rfl⟩
theorem r_11_trace_5 : RKv M_X11_trace M_X1_tellTrace 5 1 1 8 := ⟨234, by decide +kernel, wd_m11_234, ok_M_X1_tellTrace, wd_s1_tellTrace, rfl⟩
theorem r_11_trace_8 : RW M_X11_trace 8 .ireturn 9 1 := ⟨by decide +kernel, rfl⟩
set_option maxRecDepth 10000 in
theorem sp_X10_placeOf {l : Launch} {w : Wo} {d : Nat} {G : PH} {P : Option PV → PH → Prop} {s p : Int} (hs2 : 0 ≤ s ∧ s < 2) (hsz2 : 0 ≤ (gA G 94 0 (s)) ∧ (gA G 94 0 (s)) ≤ 7) (h1 : (∀ i, 0 ≤ i → i < (gA G 94 0 (s)) → (gA G 93 (s) (i)) ≠ p) → P (some (vI (-1))) G) (h2 : ∀ i, 0 ≤ i → i < (gA G 94 0 (s)) → (gA G 93 (s) (i)) = p → P (some (vI i)) G) : PW l w M_X10_placeOf (d + 0) 0 [some (vR 10 (0)), some (vI (s)), some (vI (p)), none] [] G P := by
  refine pw_const r_10_placeOf_0 ?_
  refine pw_istore (ls' := [some (vR 10 (0)), some (vI (s)), some (vI (p)), some (vI (0))]) r_10_placeOf_1 rfl rfl ?_
  have L2 : ∀ (nF : Nat) (i : Int), (hi : 0 ≤ i ∧ i ≤ (gA G 94 0 (s))) → (hn : ∀ j, 0 ≤ j → j < i → (gA G 93 (s) (j)) ≠ p) → ((gA G 94 0 (s)) - i).toNat < nF → PW l w M_X10_placeOf (d + 0) 2 [some (vR 10 (0)), some (vI (s)), some (vI (p)), some (vI (i))] [] G P := by
    intro nF
    induction nF with
    | zero => intro _ _ _ hM; exact absurd hM (Nat.not_lt_zero _)
    | succ nF ih2 =>
      intro i hi hn hM2
      refine pw_iload r_10_placeOf_2 rfl ?_
      refine pw_aload r_10_placeOf_3 rfl ?_
      refine pw_getR r_10_placeOf_4 fs_10_3 (by decide) ?_
      refine pw_iload r_10_placeOf_7 rfl ?_
      refine pw_iald r_10_placeOf_8 sh94 (by omega) (by omega) ?_
      refine pw_icmp_ge r_10_placeOf_9 (fun h09 => ?_) (fun h09 => ?_)
      · skip
        refine pw_const r_10_placeOf_32 ?_
        refine pw_iret r_10_placeOf_33 rfl (Nat.le_refl _) ⟨rfl, ?_⟩
        exact h1 (fun j a b => hn j a (by omega))
      · skip
        refine pw_aload r_10_placeOf_12 rfl ?_
        refine pw_getR r_10_placeOf_13 fs_10_2 (by decide) ?_
        refine pw_iload r_10_placeOf_16 rfl ?_
        refine pw_aaldS r_10_placeOf_17 sh92 (by decide) (by decide) aS92 rw93 (by omega) (by omega) ?_
        refine pw_iload r_10_placeOf_18 rfl ?_
        refine pw_iald r_10_placeOf_19 sh93 (by omega) (by omega) ?_
        refine pw_iload r_10_placeOf_20 rfl ?_
        refine pw_icmp_ne r_10_placeOf_21 (fun h21 => ?_) (fun h21 => ?_)
        · skip
          refine pw_iinc (b := 0) (ls' := [some (vR 10 (0)), some (vI (s)), some (vI (p)), some (vI ((i + 1)))]) r_10_placeOf_26 rfl rfl (by omega) rfl ?_
          refine pw_goto r_10_placeOf_29 ?_
          exact ih2 ((i + 1)) (by omega) (all_s hn (by omega)) (by omega)
        · skip
          refine pw_iload r_10_placeOf_24 rfl ?_
          refine pw_iret r_10_placeOf_25 rfl (Nat.le_refl _) ⟨rfl, ?_⟩
          exact h2 i (by omega) (by omega) (by omega)
  exact L2 _ (0) (by omega) (fun j a b => by omega) (Nat.lt_succ_self _)
set_option maxRecDepth 10000 in
theorem sp_X10_addOffer {l : Launch} {w : Wo} {d : Nat} {G : PH} {P : Option PV → PH → Prop} {p : Int} (hp : ∀ i, 0 ≤ i → i < (gF G 1 0 1) → gD G 30 0 i = some (3, i)) (hsz : 0 ≤ (gF G 1 0 1) ∧ (gF G 1 0 1) ≤ 150) (hsd : (0 ≤ p ∧ p < (gF G 1 0 1)) → 0 ≤ (gF G 3 (p) 2) ∧ (gF G 3 (p) 2) ≤ 1) (hof : ∀ s, 0 ≤ s → s < 2 → 0 ≤ (gA G 94 0 (s)) ∧ (gA G 94 0 (s)) ≤ 7) (h1 : ¬ ((0 ≤ p ∧ p < (gF G 1 0 1)) ∧ (∀ i, 0 ≤ i → i < (gA G 94 0 ((gF G 3 (p) 2))) → (gA G 93 ((gF G 3 (p) 2)) (i)) ≠ p)) → P (some (vI (-1))) G) (h2 : (((0 ≤ p ∧ p < (gF G 1 0 1)) ∧ (∀ i, 0 ≤ i → i < (gA G 94 0 ((gF G 3 (p) 2))) → (gA G 93 ((gF G 3 (p) 2)) (i)) ≠ p))) → ((gF G 3 (p) 8) ≠ 0) → P (some (vI (-3))) G) (h3 : (((0 ≤ p ∧ p < (gF G 1 0 1)) ∧ (∀ i, 0 ≤ i → i < (gA G 94 0 ((gF G 3 (p) 2))) → (gA G 93 ((gF G 3 (p) 2)) (i)) ≠ p))) → ((gF G 3 (p) 8) = 0) → (7 ≤ (gA G 94 0 ((gF G 3 (p) 2)))) → P (some (vI (-2))) G) (h4 : (((0 ≤ p ∧ p < (gF G 1 0 1)) ∧ (∀ i, 0 ≤ i → i < (gA G 94 0 ((gF G 3 (p) 2))) → (gA G 93 ((gF G 3 (p) 2)) (i)) ≠ p))) → ((gF G 3 (p) 8) = 0) → ((gA G 94 0 ((gF G 3 (p) 2))) < 7) → P (some (vI ((gA G 94 0 ((gF G 3 (p) 2))) + 1))) (sA (sA G 93 ((gF G 3 (p) 2)) ((gA G 94 0 ((gF G 3 (p) 2)))) (p)) 94 0 ((gF G 3 (p) 2)) ((gA G 94 0 ((gF G 3 (p) 2))) + 1))) : PW l w M_X10_addOffer (d + 1) 0 [some (vR 10 (0)), some (vI (p)), none] [] G P := by
  refine pw_aload r_10_addOffer_0 rfl ?_
  refine pw_getR r_10_addOffer_1 fs_10_0 (by decide) ?_
  refine pw_iload r_10_addOffer_4 rfl ?_
  refine pw_callV (av := [vI (p)]) (st := []) (ls0 := [some (vR 1 (0)), some (vI (p))]) r_10_addOffer_5 rfl rfl rfl (Nat.le_refl _) ?_
  refine sp_X1_get (by first | assumption | exact hp | omega) (by first | assumption | exact hsz | omega) ?_ ?_
  · skip
    intros
    refine pw_astore (ls' := [some (vR 10 (0)), some (vI (p)), some (vN)]) r_10_addOffer_8 rfl rfl ?_
    refine pw_aload r_10_addOffer_9 rfl ?_
    refine pw_ifnull r_10_addOffer_10 (fun _ => ?_) (fun _ q => by cases q)
    refine pw_const r_10_addOffer_25 ?_
    refine pw_iret r_10_addOffer_26 rfl (Nat.le_refl _) ⟨rfl, ?_⟩
    first | (exfalso; omega) | exact h1 (fun q => by omega) | exact h1 (fun q => absurd hi2 (q.2 i hi0 hi1)) | exact h2 ⟨by omega, hno⟩ (by omega) | exact h3 ⟨by omega, hno⟩ (by omega) (by omega) | exact pe (h4 ⟨by omega, hno⟩ (by omega) (by omega)) (by first | rfl | omega)
  · skip
    intros
    refine pw_astore (ls' := [some (vR 10 (0)), some (vI (p)), some (vR 3 (p))]) r_10_addOffer_8 rfl rfl ?_
    refine pw_aload r_10_addOffer_9 rfl ?_
    refine pw_ifnull r_10_addOffer_10 (fun q => by cases q) (fun _ _ => ?_)
    have hsdp := hsd (by omega)
    have hofp := hof (gF G 3 (p) 2) (by omega) (by omega)
    refine pw_aload r_10_addOffer_13 rfl ?_
    refine pw_aload r_10_addOffer_14 rfl ?_
    refine pw_getI r_10_addOffer_15 fs_3_2 (by decide) ?_
    refine pw_iload r_10_addOffer_18 rfl ?_
    refine pw_callV (av := [vI (gF G 3 (p) 2), vI (p)]) (st := []) (ls0 := [some (vR 10 (0)), some (vI (gF G 3 (p) 2)), some (vI (p)), none]) r_10_addOffer_19 rfl rfl rfl (Nat.le_refl _) ?_
    refine sp_X10_placeOf (by omega) (hofp) ?_ ?_
    · skip
      intro hno
      refine pw_if_lt r_10_addOffer_22 (fun h22 => ?_) (fun h22 => ?_)
      · skip
        refine pw_aload r_10_addOffer_27 rfl ?_
        refine pw_getI r_10_addOffer_28 fs_3_8 (by decide) ?_
        refine pw_if_eq r_10_addOffer_31 (fun h31 => ?_) (fun h31 => ?_)
        · skip
          refine pw_aload r_10_addOffer_37 rfl ?_
          refine pw_getR r_10_addOffer_38 fs_10_3 (by decide) ?_
          refine pw_aload r_10_addOffer_41 rfl ?_
          refine pw_getI r_10_addOffer_42 fs_3_2 (by decide) ?_
          refine pw_iald r_10_addOffer_45 sh94 (by omega) (by omega) ?_
          refine pw_const r_10_addOffer_46 ?_
          refine pw_icmp_lt r_10_addOffer_48 (fun h48 => ?_) (fun h48 => ?_)
          · skip
            refine pw_aload r_10_addOffer_54 rfl ?_
            refine pw_getR r_10_addOffer_55 fs_10_2 (by decide) ?_
            refine pw_aload r_10_addOffer_58 rfl ?_
            refine pw_getI r_10_addOffer_59 fs_3_2 (by decide) ?_
            refine pw_aaldS r_10_addOffer_62 sh92 (by decide) (by decide) aS92 rw93 (by omega) (by omega) ?_
            refine pw_aload r_10_addOffer_63 rfl ?_
            refine pw_getR r_10_addOffer_64 fs_10_3 (by decide) ?_
            refine pw_aload r_10_addOffer_67 rfl ?_
            refine pw_getI r_10_addOffer_68 fs_3_2 (by decide) ?_
            refine pw_iald r_10_addOffer_71 sh94 (by omega) (by omega) ?_
            refine pw_iload r_10_addOffer_72 rfl ?_
            refine pw_iast r_10_addOffer_73 sh93 (by omega) (by omega) ?_
            refine pw_aload r_10_addOffer_74 rfl ?_
            refine pw_getR r_10_addOffer_75 fs_10_3 (by decide) ?_
            refine pw_aload r_10_addOffer_78 rfl ?_
            refine pw_getIv (v := gF G 3 (p) 2) r_10_addOffer_79 fs_3_2 (by decide) (by first | rfl | simp [gF_sF, gF_sA, gF_uA, gF_sD, gA_sF, gA_sA, gA_uA, gA_sD, gD_sF, gD_sA, gD_uA, gD_sD]) ?_
            refine pw_dup2 r_10_addOffer_82 rfl rfl ?_
            refine pw_ialdv (v := gA G 94 (0) (gF G 3 (p) 2)) r_10_addOffer_83 sh94 (by omega) (by omega) (by first | rfl | simp [gF_sF, gF_sA, gF_uA, gF_sD, gA_sF, gA_sA, gA_uA, gA_sD, gD_sF, gD_sA, gD_uA, gD_sD]) ?_
            refine pw_const r_10_addOffer_84 ?_
            refine pw_iadd r_10_addOffer_85 (by omega) ?_
            refine pw_iast r_10_addOffer_86 sh94 (by omega) (by omega) ?_
            refine pw_aload r_10_addOffer_87 rfl ?_
            refine pw_getR r_10_addOffer_88 fs_10_3 (by decide) ?_
            refine pw_aload r_10_addOffer_91 rfl ?_
            refine pw_getIv (v := gF G 3 (p) 2) r_10_addOffer_92 fs_3_2 (by decide) (by first | rfl | simp [gF_sF, gF_sA, gF_uA, gF_sD, gA_sF, gA_sA, gA_uA, gA_sD, gD_sF, gD_sA, gD_uA, gD_sD]) ?_
            refine pw_ialdv (v := ((gA G 94 (0) (gF G 3 (p) 2)) + 1)) r_10_addOffer_95 sh94 (by omega) (by omega) (by first | rfl | simp [gF_sF, gF_sA, gF_uA, gF_sD, gA_sF, gA_sA, gA_uA, gA_sD, gD_sF, gD_sA, gD_uA, gD_sD]) ?_
            refine pw_iret r_10_addOffer_96 rfl (Nat.le_refl _) ⟨rfl, ?_⟩
            first | (exfalso; omega) | exact h1 (fun q => by omega) | exact h1 (fun q => absurd hi2 (q.2 i hi0 hi1)) | exact h2 ⟨by omega, hno⟩ (by omega) | exact h3 ⟨by omega, hno⟩ (by omega) (by omega) | exact pe (h4 ⟨by omega, hno⟩ (by omega) (by omega)) (by first | rfl | omega)
          · skip
            refine pw_const r_10_addOffer_51 ?_
            refine pw_iret r_10_addOffer_53 rfl (Nat.le_refl _) ⟨rfl, ?_⟩
            first | (exfalso; omega) | exact h1 (fun q => by omega) | exact h1 (fun q => absurd hi2 (q.2 i hi0 hi1)) | exact h2 ⟨by omega, hno⟩ (by omega) | exact h3 ⟨by omega, hno⟩ (by omega) (by omega) | exact pe (h4 ⟨by omega, hno⟩ (by omega) (by omega)) (by first | rfl | omega)
        · skip
          refine pw_const r_10_addOffer_34 ?_
          refine pw_iret r_10_addOffer_36 rfl (Nat.le_refl _) ⟨rfl, ?_⟩
          first | (exfalso; omega) | exact h1 (fun q => by omega) | exact h1 (fun q => absurd hi2 (q.2 i hi0 hi1)) | exact h2 ⟨by omega, hno⟩ (by omega) | exact h3 ⟨by omega, hno⟩ (by omega) (by omega) | exact pe (h4 ⟨by omega, hno⟩ (by omega) (by omega)) (by first | rfl | omega)
      · skip
        refine pw_const r_10_addOffer_25 ?_
        refine pw_iret r_10_addOffer_26 rfl (Nat.le_refl _) ⟨rfl, ?_⟩
        first | (exfalso; omega) | exact h1 (fun q => by omega) | exact h1 (fun q => absurd hi2 (q.2 i hi0 hi1)) | exact h2 ⟨by omega, hno⟩ (by omega) | exact h3 ⟨by omega, hno⟩ (by omega) (by omega) | exact pe (h4 ⟨by omega, hno⟩ (by omega) (by omega)) (by first | rfl | omega)
    · skip
      intro i hi0 hi1 hi2
      refine pw_if_lt r_10_addOffer_22 (fun h22 => ?_) (fun h22 => ?_)
      · skip
        refine pw_aload r_10_addOffer_27 rfl ?_
        refine pw_getI r_10_addOffer_28 fs_3_8 (by decide) ?_
        refine pw_if_eq r_10_addOffer_31 (fun h31 => ?_) (fun h31 => ?_)
        · skip
          refine pw_aload r_10_addOffer_37 rfl ?_
          refine pw_getR r_10_addOffer_38 fs_10_3 (by decide) ?_
          refine pw_aload r_10_addOffer_41 rfl ?_
          refine pw_getI r_10_addOffer_42 fs_3_2 (by decide) ?_
          refine pw_iald r_10_addOffer_45 sh94 (by omega) (by omega) ?_
          refine pw_const r_10_addOffer_46 ?_
          refine pw_icmp_lt r_10_addOffer_48 (fun h48 => ?_) (fun h48 => ?_)
          · skip
            refine pw_aload r_10_addOffer_54 rfl ?_
            refine pw_getR r_10_addOffer_55 fs_10_2 (by decide) ?_
            refine pw_aload r_10_addOffer_58 rfl ?_
            refine pw_getI r_10_addOffer_59 fs_3_2 (by decide) ?_
            refine pw_aaldS r_10_addOffer_62 sh92 (by decide) (by decide) aS92 rw93 (by omega) (by omega) ?_
            refine pw_aload r_10_addOffer_63 rfl ?_
            refine pw_getR r_10_addOffer_64 fs_10_3 (by decide) ?_
            refine pw_aload r_10_addOffer_67 rfl ?_
            refine pw_getI r_10_addOffer_68 fs_3_2 (by decide) ?_
            refine pw_iald r_10_addOffer_71 sh94 (by omega) (by omega) ?_
            refine pw_iload r_10_addOffer_72 rfl ?_
            refine pw_iast r_10_addOffer_73 sh93 (by omega) (by omega) ?_
            refine pw_aload r_10_addOffer_74 rfl ?_
            refine pw_getR r_10_addOffer_75 fs_10_3 (by decide) ?_
            refine pw_aload r_10_addOffer_78 rfl ?_
            refine pw_getIv (v := gF G 3 (p) 2) r_10_addOffer_79 fs_3_2 (by decide) (by first | rfl | simp [gF_sF, gF_sA, gF_uA, gF_sD, gA_sF, gA_sA, gA_uA, gA_sD, gD_sF, gD_sA, gD_uA, gD_sD]) ?_
            refine pw_dup2 r_10_addOffer_82 rfl rfl ?_
            refine pw_ialdv (v := gA G 94 (0) (gF G 3 (p) 2)) r_10_addOffer_83 sh94 (by omega) (by omega) (by first | rfl | simp [gF_sF, gF_sA, gF_uA, gF_sD, gA_sF, gA_sA, gA_uA, gA_sD, gD_sF, gD_sA, gD_uA, gD_sD]) ?_
            refine pw_const r_10_addOffer_84 ?_
            refine pw_iadd r_10_addOffer_85 (by omega) ?_
            refine pw_iast r_10_addOffer_86 sh94 (by omega) (by omega) ?_
            refine pw_aload r_10_addOffer_87 rfl ?_
            refine pw_getR r_10_addOffer_88 fs_10_3 (by decide) ?_
            refine pw_aload r_10_addOffer_91 rfl ?_
            refine pw_getIv (v := gF G 3 (p) 2) r_10_addOffer_92 fs_3_2 (by decide) (by first | rfl | simp [gF_sF, gF_sA, gF_uA, gF_sD, gA_sF, gA_sA, gA_uA, gA_sD, gD_sF, gD_sA, gD_uA, gD_sD]) ?_
            refine pw_ialdv (v := ((gA G 94 (0) (gF G 3 (p) 2)) + 1)) r_10_addOffer_95 sh94 (by omega) (by omega) (by first | rfl | simp [gF_sF, gF_sA, gF_uA, gF_sD, gA_sF, gA_sA, gA_uA, gA_sD, gD_sF, gD_sA, gD_uA, gD_sD]) ?_
            refine pw_iret r_10_addOffer_96 rfl (Nat.le_refl _) ⟨rfl, ?_⟩
            first | (exfalso; omega) | exact h1 (fun q => by omega) | exact h1 (fun q => absurd hi2 (q.2 i hi0 hi1)) | exact h2 ⟨by omega, hno⟩ (by omega) | exact h3 ⟨by omega, hno⟩ (by omega) (by omega) | exact pe (h4 ⟨by omega, hno⟩ (by omega) (by omega)) (by first | rfl | omega)
          · skip
            refine pw_const r_10_addOffer_51 ?_
            refine pw_iret r_10_addOffer_53 rfl (Nat.le_refl _) ⟨rfl, ?_⟩
            first | (exfalso; omega) | exact h1 (fun q => by omega) | exact h1 (fun q => absurd hi2 (q.2 i hi0 hi1)) | exact h2 ⟨by omega, hno⟩ (by omega) | exact h3 ⟨by omega, hno⟩ (by omega) (by omega) | exact pe (h4 ⟨by omega, hno⟩ (by omega) (by omega)) (by first | rfl | omega)
        · skip
          refine pw_const r_10_addOffer_34 ?_
          refine pw_iret r_10_addOffer_36 rfl (Nat.le_refl _) ⟨rfl, ?_⟩
          first | (exfalso; omega) | exact h1 (fun q => by omega) | exact h1 (fun q => absurd hi2 (q.2 i hi0 hi1)) | exact h2 ⟨by omega, hno⟩ (by omega) | exact h3 ⟨by omega, hno⟩ (by omega) (by omega) | exact pe (h4 ⟨by omega, hno⟩ (by omega) (by omega)) (by first | rfl | omega)
      · skip
        refine pw_const r_10_addOffer_25 ?_
        refine pw_iret r_10_addOffer_26 rfl (Nat.le_refl _) ⟨rfl, ?_⟩
        first | (exfalso; omega) | exact h1 (fun q => by omega) | exact h1 (fun q => absurd hi2 (q.2 i hi0 hi1)) | exact h2 ⟨by omega, hno⟩ (by omega) | exact h3 ⟨by omega, hno⟩ (by omega) (by omega) | exact pe (h4 ⟨by omega, hno⟩ (by omega) (by omega)) (by first | rfl | omega)
set_option maxRecDepth 10000 in
theorem sp_X12_offer {l : Launch} {w : Wo} {d : Nat} {G : PH} {P : Option PV → PH → Prop} {p : Int} (hsz : 0 ≤ (gF G 12 0 17) ∧ (gF G 12 0 17) ≤ 150) (hsd : (0 ≤ p ∧ p < (gF G 12 0 17)) → 0 ≤ (gA G 205 0 (p)) ∧ (gA G 205 0 (p)) ≤ 1) (hof : ∀ s, 0 ≤ s → s < 2 → 0 ≤ (gA G 243 0 (s)) ∧ (gA G 243 0 (s)) ≤ 7) (h1 : ¬ ((0 ≤ p ∧ p < (gF G 12 0 17)) ∧ (∀ i, 0 ≤ i → i < (gA G 243 0 ((gA G 205 0 (p)))) → (gA G 242 0 (7 * (gA G 205 0 (p)) + i)) ≠ p)) → P (some (vI (-1))) G) (h2 : (((0 ≤ p ∧ p < (gF G 12 0 17)) ∧ (∀ i, 0 ≤ i → i < (gA G 243 0 ((gA G 205 0 (p)))) → (gA G 242 0 (7 * (gA G 205 0 (p)) + i)) ≠ p))) → ((gA G 206 0 (p)) ≠ 0) → P (some (vI (-3))) G) (h3 : (((0 ≤ p ∧ p < (gF G 12 0 17)) ∧ (∀ i, 0 ≤ i → i < (gA G 243 0 ((gA G 205 0 (p)))) → (gA G 242 0 (7 * (gA G 205 0 (p)) + i)) ≠ p))) → ((gA G 206 0 (p)) = 0) → ((gA G 243 0 ((gA G 205 0 (p)))) = 7) → P (some (vI (-2))) G) (h4 : (((0 ≤ p ∧ p < (gF G 12 0 17)) ∧ (∀ i, 0 ≤ i → i < (gA G 243 0 ((gA G 205 0 (p)))) → (gA G 242 0 (7 * (gA G 205 0 (p)) + i)) ≠ p))) → ((gA G 206 0 (p)) = 0) → ((gA G 243 0 ((gA G 205 0 (p)))) < 7) → P (some (vI ((gA G 243 0 ((gA G 205 0 (p)))) + 1))) (sA (sA G 242 0 (7 * (gA G 205 0 (p)) + (gA G 243 0 ((gA G 205 0 (p))))) (p)) 243 0 ((gA G 205 0 (p))) ((gA G 243 0 ((gA G 205 0 (p)))) + 1))) : PW l w M_X12_offer (d + 1) 0 [some (vR 12 (0)), some (vI (p)), none, none] [] G P := by
  refine pw_aload r_12_offer_0 rfl ?_
  refine pw_iload r_12_offer_1 rfl ?_
  refine pw_callV (av := [vI (p)]) (st := []) (ls0 := [some (vR 12 (0)), some (vI (p))]) r_12_offer_2 rfl rfl rfl (Nat.le_refl _) ?_
  refine sp_X12_isPerson  ?_
  refine pw_if_neB r_12_offer_5 (fun h05 => ?_) (fun h05 => ?_)
  · skip
    refine pw_aload r_12_offer_10 rfl ?_
    refine pw_getR r_12_offer_11 fs_12_7 (by decide) ?_
    refine pw_iload r_12_offer_14 rfl ?_
    refine pw_iald r_12_offer_15 sh205 (by omega) (by omega) ?_
    refine pw_istore (ls' := [some (vR 12 (0)), some (vI (p)), some (vI (gA G 205 (0) (p))), none]) r_12_offer_16 rfl rfl ?_
    have hsdp := hsd (by omega)
    have hofp := hof (gA G 205 0 (p)) (by omega) (by omega)
    refine pw_const r_12_offer_17 ?_
    refine pw_istore (ls' := [some (vR 12 (0)), some (vI (p)), some (vI (gA G 205 (0) (p))), some (vI (0))]) r_12_offer_18 rfl rfl ?_
    have L19 : ∀ (nF : Nat) (i : Int), (hi : 0 ≤ i ∧ i ≤ (gA G 243 0 ((gA G 205 0 (p))))) → (hn : ∀ j, 0 ≤ j → j < i → (gA G 242 0 (7 * (gA G 205 0 (p)) + j)) ≠ p) → ((gA G 243 0 ((gA G 205 0 (p)))) - i).toNat < nF → PW l w M_X12_offer (d + 1) 19 [some (vR 12 (0)), some (vI (p)), some (vI (gA G 205 (0) (p))), some (vI (i))] [] G P := by
      intro nF
      induction nF with
      | zero => intro _ _ _ hM; exact absurd hM (Nat.not_lt_zero _)
      | succ nF ih19 =>
        intro i hi hn hM19
        refine pw_iload r_12_offer_19 rfl ?_
        refine pw_aload r_12_offer_20 rfl ?_
        refine pw_getR r_12_offer_21 fs_12_61 (by decide) ?_
        refine pw_iload r_12_offer_24 rfl ?_
        refine pw_iald r_12_offer_25 sh243 (by omega) (by omega) ?_
        refine pw_icmp_ge r_12_offer_26 (fun h26 => ?_) (fun h26 => ?_)
        · skip
          have hno : ∀ j, 0 ≤ j → j < (gA G 243 0 ((gA G 205 0 (p)))) → (gA G 242 0 (7 * (gA G 205 0 (p)) + j)) ≠ p := fun j a b => hn j a (by omega)
          refine pw_aload r_12_offer_52 rfl ?_
          refine pw_getR r_12_offer_53 fs_12_8 (by decide) ?_
          refine pw_iload r_12_offer_56 rfl ?_
          refine pw_iald r_12_offer_57 sh206 (by omega) (by omega) ?_
          refine pw_if_eq r_12_offer_58 (fun h58 => ?_) (fun h58 => ?_)
          · skip
            refine pw_aload r_12_offer_64 rfl ?_
            refine pw_getR r_12_offer_65 fs_12_61 (by decide) ?_
            refine pw_iload r_12_offer_68 rfl ?_
            refine pw_iald r_12_offer_69 sh243 (by omega) (by omega) ?_
            refine pw_const r_12_offer_70 ?_
            refine pw_icmp_ne r_12_offer_72 (fun h72 => ?_) (fun h72 => ?_)
            · skip
              refine pw_aload r_12_offer_78 rfl ?_
              refine pw_getR r_12_offer_79 fs_12_60 (by decide) ?_
              refine pw_const r_12_offer_82 ?_
              refine pw_iload r_12_offer_84 rfl ?_
              refine pw_imul r_12_offer_85 (by omega) ?_
              refine pw_aload r_12_offer_86 rfl ?_
              refine pw_getR r_12_offer_87 fs_12_61 (by decide) ?_
              refine pw_iload r_12_offer_90 rfl ?_
              refine pw_iald r_12_offer_91 sh243 (by omega) (by omega) ?_
              refine pw_iadd r_12_offer_92 (by omega) ?_
              refine pw_iload r_12_offer_93 rfl ?_
              refine pw_iast r_12_offer_94 sh242 (by omega) (by omega) ?_
              refine pw_aload r_12_offer_95 rfl ?_
              refine pw_getR r_12_offer_96 fs_12_61 (by decide) ?_
              refine pw_iload r_12_offer_99 rfl ?_
              refine pw_dup2 r_12_offer_100 rfl rfl ?_
              refine pw_ialdv (v := gA G 243 (0) (gA G 205 (0) (p))) r_12_offer_101 sh243 (by omega) (by omega) (by first | rfl | simp [gF_sF, gF_sA, gF_uA, gF_sD, gA_sF, gA_sA, gA_uA, gA_sD, gD_sF, gD_sA, gD_uA, gD_sD]) ?_
              refine pw_const r_12_offer_102 ?_
              refine pw_iadd r_12_offer_103 (by omega) ?_
              refine pw_iast r_12_offer_104 sh243 (by omega) (by omega) ?_
              refine pw_aload r_12_offer_105 rfl ?_
              refine pw_getR r_12_offer_106 fs_12_61 (by decide) ?_
              refine pw_iload r_12_offer_109 rfl ?_
              refine pw_ialdv (v := ((gA G 243 (0) (gA G 205 (0) (p))) + 1)) r_12_offer_110 sh243 (by omega) (by omega) (by first | rfl | simp [gF_sF, gF_sA, gF_uA, gF_sD, gA_sF, gA_sA, gA_uA, gA_sD, gD_sF, gD_sA, gD_uA, gD_sD]) ?_
              refine pw_iret r_12_offer_111 rfl (Nat.le_refl _) ⟨rfl, ?_⟩
              first | exact h1 (fun q => by omega) | exact h1 (fun q => absurd (show (gA G 242 0 (7 * (gA G 205 0 (p)) + i)) = p by omega) (q.2 i (by omega) (by omega))) | exact h2 ⟨by omega, hno⟩ (by omega) | exact h3 ⟨by omega, hno⟩ (by omega) (by omega) | exact pe (h4 ⟨by omega, hno⟩ (by omega) (by omega)) (by first | rfl | omega)
            · skip
              refine pw_const r_12_offer_75 ?_
              refine pw_iret r_12_offer_77 rfl (Nat.le_refl _) ⟨rfl, ?_⟩
              first | exact h1 (fun q => by omega) | exact h1 (fun q => absurd (show (gA G 242 0 (7 * (gA G 205 0 (p)) + i)) = p by omega) (q.2 i (by omega) (by omega))) | exact h2 ⟨by omega, hno⟩ (by omega) | exact h3 ⟨by omega, hno⟩ (by omega) (by omega) | exact pe (h4 ⟨by omega, hno⟩ (by omega) (by omega)) (by first | rfl | omega)
          · skip
            refine pw_const r_12_offer_61 ?_
            refine pw_iret r_12_offer_63 rfl (Nat.le_refl _) ⟨rfl, ?_⟩
            first | exact h1 (fun q => by omega) | exact h1 (fun q => absurd (show (gA G 242 0 (7 * (gA G 205 0 (p)) + i)) = p by omega) (q.2 i (by omega) (by omega))) | exact h2 ⟨by omega, hno⟩ (by omega) | exact h3 ⟨by omega, hno⟩ (by omega) (by omega) | exact pe (h4 ⟨by omega, hno⟩ (by omega) (by omega)) (by first | rfl | omega)
        · skip
          refine pw_aload r_12_offer_29 rfl ?_
          refine pw_getR r_12_offer_30 fs_12_60 (by decide) ?_
          refine pw_const r_12_offer_33 ?_
          refine pw_iload r_12_offer_35 rfl ?_
          refine pw_imul r_12_offer_36 (by omega) ?_
          refine pw_iload r_12_offer_37 rfl ?_
          refine pw_iadd r_12_offer_38 (by omega) ?_
          refine pw_iald r_12_offer_39 sh242 (by omega) (by omega) ?_
          refine pw_iload r_12_offer_40 rfl ?_
          refine pw_icmp_ne r_12_offer_41 (fun h41 => ?_) (fun h41 => ?_)
          · skip
            refine pw_iinc (b := 0) (ls' := [some (vR 12 (0)), some (vI (p)), some (vI (gA G 205 (0) (p))), some (vI ((i + 1)))]) r_12_offer_46 rfl rfl (by omega) rfl ?_
            refine pw_goto r_12_offer_49 ?_
            exact ih19 ((i + 1)) (by omega) (all_s hn (by omega)) (by omega)
          · skip
            refine pw_const r_12_offer_44 ?_
            refine pw_iret r_12_offer_45 rfl (Nat.le_refl _) ⟨rfl, ?_⟩
            first | exact h1 (fun q => by omega) | exact h1 (fun q => absurd (show (gA G 242 0 (7 * (gA G 205 0 (p)) + i)) = p by omega) (q.2 i (by omega) (by omega))) | exact h2 ⟨by omega, hno⟩ (by omega) | exact h3 ⟨by omega, hno⟩ (by omega) (by omega) | exact pe (h4 ⟨by omega, hno⟩ (by omega) (by omega)) (by first | rfl | omega)
    exact L19 _ (0) (by omega) (fun j a b => by omega) (Nat.lt_succ_self _)
  · skip
    refine pw_const r_12_offer_8 ?_
    refine pw_iret r_12_offer_9 rfl (Nat.le_refl _) ⟨rfl, ?_⟩
    first | exact h1 (fun q => by omega) | exact h1 (fun q => absurd (show (gA G 242 0 (7 * (gA G 205 0 (p)) + i)) = p by omega) (q.2 i (by omega) (by omega))) | exact h2 ⟨by omega, hno⟩ (by omega) | exact h3 ⟨by omega, hno⟩ (by omega) (by omega) | exact pe (h4 ⟨by omega, hno⟩ (by omega) (by omega)) (by first | rfl | omega)
set_option maxRecDepth 10000 in
theorem sp_X10_setRatio {l : Launch} {w : Wo} {d : Nat} {G : PH} {P : Option PV → PH → Prop} {v : Int} (h1 : ¬ (1 ≤ v ∧ v ≤ 99) → P (some (vI (-1))) G) (h2 : (1 ≤ v ∧ v ≤ 99) → P (some (vI (gF G 10 0 5))) (sF G 10 0 5 (v))) : PW l w M_X10_setRatio (d + 1) 0 [some (vR 10 (0)), some (vI (v)), none] [] G P := by
  refine pw_iload r_10_setRatio_0 rfl ?_
  refine pw_const r_10_setRatio_1 ?_
  refine pw_const r_10_setRatio_2 ?_
  refine pw_callS (av := [vI (v), vI (1), vI (99)]) (st := []) (ls0 := [some (vI (v)), some (vI (1)), some (vI (99))]) r_10_setRatio_4 rfl rfl rfl (Nat.le_refl _) ?_
  refine sp_X11_within  ?_
  refine pw_if_neB r_10_setRatio_7 (fun h07 => ?_) (fun h07 => ?_)
  · skip
    refine pw_aload r_10_setRatio_12 rfl ?_
    refine pw_getI r_10_setRatio_13 fs_10_5 (by decide) ?_
    refine pw_istore (ls' := [some (vR 10 (0)), some (vI (v)), some (vI (gF G 10 (0) 5))]) r_10_setRatio_16 rfl rfl ?_
    refine pw_aload r_10_setRatio_17 rfl ?_
    refine pw_iload r_10_setRatio_18 rfl ?_
    refine pw_putI r_10_setRatio_19 (by decide +kernel) fs_10_5 (by decide) ?_
    refine pw_iload r_10_setRatio_22 rfl ?_
    refine pw_iret r_10_setRatio_23 rfl (Nat.le_refl _) ⟨rfl, ?_⟩
    first | exact h1 (by omega) | exact h2 (by omega)
  · skip
    refine pw_const r_10_setRatio_10 ?_
    refine pw_iret r_10_setRatio_11 rfl (Nat.le_refl _) ⟨rfl, ?_⟩
    first | exact h1 (by omega) | exact h2 (by omega)
set_option maxRecDepth 10000 in
theorem sp_X12_ratio {l : Launch} {w : Wo} {d : Nat} {G : PH} {P : Option PV → PH → Prop} {v : Int} (h1 : ¬ (1 ≤ v ∧ v ≤ 99) → P (some (vI (-1))) G) (h2 : (1 ≤ v ∧ v ≤ 99) → P (some (vI (gF G 12 0 62))) (sF G 12 0 62 (v))) : PW l w M_X12_ratio (d + 1) 0 [some (vR 12 (0)), some (vI (v)), none] [] G P := by
  refine pw_iload r_12_ratio_0 rfl ?_
  refine pw_const r_12_ratio_1 ?_
  refine pw_const r_12_ratio_2 ?_
  refine pw_callS (av := [vI (v), vI (1), vI (99)]) (st := []) (ls0 := [some (vI (v)), some (vI (1)), some (vI (99))]) r_12_ratio_4 rfl rfl rfl (Nat.le_refl _) ?_
  refine sp_X12_within  ?_
  refine pw_if_neB r_12_ratio_7 (fun h07 => ?_) (fun h07 => ?_)
  · skip
    refine pw_aload r_12_ratio_12 rfl ?_
    refine pw_getI r_12_ratio_13 fs_12_62 (by decide) ?_
    refine pw_istore (ls' := [some (vR 12 (0)), some (vI (v)), some (vI (gF G 12 (0) 62))]) r_12_ratio_16 rfl rfl ?_
    refine pw_aload r_12_ratio_17 rfl ?_
    refine pw_iload r_12_ratio_18 rfl ?_
    refine pw_putI r_12_ratio_19 (by decide +kernel) fs_12_62 (by decide) ?_
    refine pw_iload r_12_ratio_22 rfl ?_
    refine pw_iret r_12_ratio_23 rfl (Nat.le_refl _) ⟨rfl, ?_⟩
    first | exact h1 (by omega) | exact h2 (by omega)
  · skip
    refine pw_const r_12_ratio_10 ?_
    refine pw_iret r_12_ratio_11 rfl (Nat.le_refl _) ⟨rfl, ?_⟩
    first | exact h1 (by omega) | exact h2 (by omega)
set_option maxRecDepth 10000 in
theorem sp_X10_tellBest {l : Launch} {w : Wo} {d : Nat} {G : PH} {P : Option PV → PH → Prop} {s : Int} (h1 : ¬ (0 ≤ s ∧ s ≤ 1) → P (some (vI (-1))) G) (h2 : (0 ≤ s ∧ s ≤ 1) → P (some (vI (gA G 95 0 (s)))) G) : PW l w M_X10_tellBest (d + 1) 0 [some (vR 10 (0)), some (vI (s))] [] G P := by
  refine pw_iload r_10_tellBest_0 rfl ?_
  refine pw_callS (av := [vI (s)]) (st := []) (ls0 := [some (vI (s))]) r_10_tellBest_1 rfl rfl rfl (Nat.le_refl _) ?_
  refine sp_X11_isSide  ?_
  refine pw_if_eqB r_10_tellBest_4 (fun h04 => ?_) (fun h04 => ?_)
  · skip
    refine pw_const r_10_tellBest_16 ?_
    refine pw_iret r_10_tellBest_17 rfl (Nat.le_refl _) ⟨rfl, ?_⟩
    first | exact h1 (by omega) | exact h2 (by omega)
  · skip
    refine pw_aload r_10_tellBest_7 rfl ?_
    refine pw_getR r_10_tellBest_8 fs_10_4 (by decide) ?_
    refine pw_iload r_10_tellBest_11 rfl ?_
    refine pw_iald r_10_tellBest_12 sh95 (by omega) (by omega) ?_
    refine pw_goto r_10_tellBest_13 ?_
    refine pw_iret r_10_tellBest_17 rfl (Nat.le_refl _) ⟨rfl, ?_⟩
    first | exact h1 (by omega) | exact h2 (by omega)
set_option maxRecDepth 10000 in
theorem sp_X12_bestOf {l : Launch} {w : Wo} {d : Nat} {G : PH} {P : Option PV → PH → Prop} {s : Int} (h1 : ¬ ((0 ≤ s ∧ s ≤ 1) ∧ 0 ≤ (gF G 12 0 63)) → P (some (vI (-1))) G) (h2 : ((0 ≤ s ∧ s ≤ 1) ∧ 0 ≤ (gF G 12 0 63)) → P (some (vI (gA G 244 0 (s)))) G) : PW l w M_X12_bestOf (d + 2) 0 [some (vR 12 (0)), some (vI (s))] [] G P := by
  refine pw_iload r_12_bestOf_0 rfl ?_
  refine pw_callS (av := [vI (s)]) (st := []) (ls0 := [some (vI (s))]) r_12_bestOf_1 rfl rfl rfl (Nat.le_refl _) ?_
  refine sp_X12_isSide  ?_
  refine pw_if_eqB r_12_bestOf_4 (fun h04 => ?_) (fun h04 => ?_)
  · skip
    refine pw_const r_12_bestOf_23 ?_
    refine pw_iret r_12_bestOf_24 rfl (Nat.le_refl _) ⟨rfl, ?_⟩
    first | exact h1 (by omega) | exact h2 (by omega)
  · skip
    refine pw_aload r_12_bestOf_7 rfl ?_
    refine pw_getI r_12_bestOf_8 fs_12_63 (by decide) ?_
    refine pw_if_lt r_12_bestOf_11 (fun h11 => ?_) (fun h11 => ?_)
    · skip
      refine pw_const r_12_bestOf_23 ?_
      refine pw_iret r_12_bestOf_24 rfl (Nat.le_refl _) ⟨rfl, ?_⟩
      first | exact h1 (by omega) | exact h2 (by omega)
    · skip
      refine pw_aload r_12_bestOf_14 rfl ?_
      refine pw_getR r_12_bestOf_15 fs_12_64 (by decide) ?_
      refine pw_iload r_12_bestOf_18 rfl ?_
      refine pw_iald r_12_bestOf_19 sh244 (by omega) (by omega) ?_
      refine pw_goto r_12_bestOf_20 ?_
      refine pw_iret r_12_bestOf_24 rfl (Nat.le_refl _) ⟨rfl, ?_⟩
      first | exact h1 (by omega) | exact h2 (by omega)
set_option maxRecDepth 10000 in
theorem sp_X7_addCamp {l : Launch} {w : Wo} {d : Nat} {G : PH} {P : Option PV → PH → Prop} {c s f : Int} (hc : 0 ≤ (gF G 2 0 2) ∧ (gF G 2 0 2) ≤ 16) (hr : ∀ k, 0 ≤ k → k < 324 → 0 ≤ (gA G 43 0 (k)) ∧ (gA G 43 0 (k)) ≤ 9) (hto : 0 ≤ (gF G 7 0 2) ∧ (gF G 7 0 2) ≤ 6) (h1 : ¬ (((0 ≤ c ∧ c < (gF G 2 0 2)) ∧ (0 ≤ s ∧ s ≤ 99) ∧ (0 ≤ f ∧ f ≤ 99) ∧ s + f ≠ 0) ∧ (∀ i, 0 ≤ i → i < (gF G 7 0 2) → (gA G 65 0 (i)) ≠ c)) → P (some (vI (-1))) G) (h2 : ((0 ≤ c ∧ c < (gF G 2 0 2)) ∧ (0 ≤ s ∧ s ≤ 99) ∧ (0 ≤ f ∧ f ≤ 99) ∧ s + f ≠ 0) → (∀ i, 0 ≤ i → i < (gF G 7 0 2) → (gA G 65 0 (i)) ≠ c) → ∀ Dr fr, IsD (fun u v => (gA G 43 0 (u * 18 + v))) (fun u => ¬ (0 ≤ u ∧ u < (gF G 2 0 2)) ∨ (gA G 41 0 (u)) = (gA G 41 0 (c))) c 1000000000 Dr → (∀ v, 0 ≤ v → v < 18 → Dr v < 1000000000 → Dr v ≤ 162) → 1000000000 ≤ Dr 16 → P (some (vI (-4))) (uA (uA G 44 0 Dr) 45 0 fr)) (h3 : ((0 ≤ c ∧ c < (gF G 2 0 2)) ∧ (0 ≤ s ∧ s ≤ 99) ∧ (0 ≤ f ∧ f ≤ 99) ∧ s + f ≠ 0) → (∀ i, 0 ≤ i → i < (gF G 7 0 2) → (gA G 65 0 (i)) ≠ c) → ∀ Dr fr, IsD (fun u v => (gA G 43 0 (u * 18 + v))) (fun u => ¬ (0 ≤ u ∧ u < (gF G 2 0 2)) ∨ (gA G 41 0 (u)) = (gA G 41 0 (c))) c 1000000000 Dr → (∀ v, 0 ≤ v → v < 18 → Dr v < 1000000000 → Dr v ≤ 162) → Dr 16 < 1000000000 → 6 ≤ (gF G 7 0 2) → P (some (vI (-2))) (uA (uA G 44 0 Dr) 45 0 fr)) (h4 : ((0 ≤ c ∧ c < (gF G 2 0 2)) ∧ (0 ≤ s ∧ s ≤ 99) ∧ (0 ≤ f ∧ f ≤ 99) ∧ s + f ≠ 0) → (∀ i, 0 ≤ i → i < (gF G 7 0 2) → (gA G 65 0 (i)) ≠ c) → ∀ Dr fr, IsD (fun u v => (gA G 43 0 (u * 18 + v))) (fun u => ¬ (0 ≤ u ∧ u < (gF G 2 0 2)) ∨ (gA G 41 0 (u)) = (gA G 41 0 (c))) c 1000000000 Dr → (∀ v, 0 ≤ v → v < 18 → Dr v < 1000000000 → Dr v ≤ 162) → Dr 16 < 1000000000 → (gF G 7 0 2) < 6 → P (some (vI ((gF G 7 0 2) + 1))) (sF (sA (sA (sA ((uA (uA G 44 0 Dr) 45 0 fr)) 65 0 ((gF G 7 0 2)) (c)) 66 0 ((gF G 7 0 2)) (s)) 67 0 ((gF G 7 0 2)) (f)) 7 0 2 ((gF G 7 0 2) + 1))) : PW l w M_X7_addCamp (d + 3) 0 [some (vR 7 (0)), some (vI (c)), some (vI (s)), some (vI (f)), none] [] G P := by
  refine pw_aload r_7_addCamp_0 rfl ?_
  refine pw_getR r_7_addCamp_1 fs_7_0 (by decide) ?_
  refine pw_iload r_7_addCamp_4 rfl ?_
  refine pw_callV (av := [vI (c)]) (st := []) (ls0 := [some (vR 2 (0)), some (vI (c))]) r_7_addCamp_5 rfl rfl rfl (Nat.le_refl _) ?_
  refine sp_X2_isCamp (by first | assumption | exact hc | omega) ?_
  refine pw_if_eqB r_7_addCamp_8 (fun h08 => ?_) (fun h08 => ?_)
  · skip
    refine pw_const r_7_addCamp_37 ?_
    refine pw_iret r_7_addCamp_38 rfl (Nat.le_refl _) ⟨rfl, ?_⟩
    first | exact h1 (fun q => by omega) | exact h1 (fun q => absurd (show (gA G 65 0 (i)) = c by omega) (q.2 i (by omega) (by omega))) | exact h2 ⟨by omega, by omega, by omega, by omega⟩ hno Dr fr hDr hbr (by omega) | exact h3 ⟨by omega, by omega, by omega, by omega⟩ hno Dr fr hDr hbr (by omega) (by omega) | exact pe (h4 ⟨by omega, by omega, by omega, by omega⟩ hno Dr fr hDr hbr (by omega) (by omega)) (by first | rfl | omega)
  · skip
    refine pw_iload r_7_addCamp_11 rfl ?_
    refine pw_const r_7_addCamp_12 ?_
    refine pw_const r_7_addCamp_13 ?_
    refine pw_callS (av := [vI (s), vI (0), vI (99)]) (st := []) (ls0 := [some (vI (s)), some (vI (0)), some (vI (99))]) r_7_addCamp_15 rfl rfl rfl (Nat.le_refl _) ?_
    refine sp_X11_within  ?_
    refine pw_if_eqB r_7_addCamp_18 (fun h18 => ?_) (fun h18 => ?_)
    · skip
      refine pw_const r_7_addCamp_37 ?_
      refine pw_iret r_7_addCamp_38 rfl (Nat.le_refl _) ⟨rfl, ?_⟩
      first | exact h1 (fun q => by omega) | exact h1 (fun q => absurd (show (gA G 65 0 (i)) = c by omega) (q.2 i (by omega) (by omega))) | exact h2 ⟨by omega, by omega, by omega, by omega⟩ hno Dr fr hDr hbr (by omega) | exact h3 ⟨by omega, by omega, by omega, by omega⟩ hno Dr fr hDr hbr (by omega) (by omega) | exact pe (h4 ⟨by omega, by omega, by omega, by omega⟩ hno Dr fr hDr hbr (by omega) (by omega)) (by first | rfl | omega)
    · skip
      refine pw_iload r_7_addCamp_21 rfl ?_
      refine pw_const r_7_addCamp_22 ?_
      refine pw_const r_7_addCamp_23 ?_
      refine pw_callS (av := [vI (f), vI (0), vI (99)]) (st := []) (ls0 := [some (vI (f)), some (vI (0)), some (vI (99))]) r_7_addCamp_25 rfl rfl rfl (Nat.le_refl _) ?_
      refine sp_X11_within  ?_
      refine pw_if_eqB r_7_addCamp_28 (fun h28 => ?_) (fun h28 => ?_)
      · skip
        refine pw_const r_7_addCamp_37 ?_
        refine pw_iret r_7_addCamp_38 rfl (Nat.le_refl _) ⟨rfl, ?_⟩
        first | exact h1 (fun q => by omega) | exact h1 (fun q => absurd (show (gA G 65 0 (i)) = c by omega) (q.2 i (by omega) (by omega))) | exact h2 ⟨by omega, by omega, by omega, by omega⟩ hno Dr fr hDr hbr (by omega) | exact h3 ⟨by omega, by omega, by omega, by omega⟩ hno Dr fr hDr hbr (by omega) (by omega) | exact pe (h4 ⟨by omega, by omega, by omega, by omega⟩ hno Dr fr hDr hbr (by omega) (by omega)) (by first | rfl | omega)
      · skip
        refine pw_iload r_7_addCamp_31 rfl ?_
        refine pw_iload r_7_addCamp_32 rfl ?_
        refine pw_iadd r_7_addCamp_33 (by omega) ?_
        refine pw_if_ne r_7_addCamp_34 (fun h34 => ?_) (fun h34 => ?_)
        · skip
          refine pw_const r_7_addCamp_39 ?_
          refine pw_istore (ls' := [some (vR 7 (0)), some (vI (c)), some (vI (s)), some (vI (f)), some (vI (0))]) r_7_addCamp_40 rfl rfl ?_
          have L42 : ∀ (nF : Nat) (i : Int), (hi : 0 ≤ i ∧ i ≤ (gF G 7 0 2)) → (hn : ∀ j, 0 ≤ j → j < i → (gA G 65 0 (j)) ≠ c) → ((gF G 7 0 2) - i).toNat < nF → PW l w M_X7_addCamp (d + 3) 42 [some (vR 7 (0)), some (vI (c)), some (vI (s)), some (vI (f)), some (vI (i))] [] G P := by
            intro nF
            induction nF with
            | zero => intro _ _ _ hM; exact absurd hM (Nat.not_lt_zero _)
            | succ nF ih42 =>
              intro i hi hn hM42
              refine pw_iload r_7_addCamp_42 rfl ?_
              refine pw_aload r_7_addCamp_44 rfl ?_
              refine pw_getI r_7_addCamp_45 fs_7_2 (by decide) ?_
              refine pw_icmp_ge r_7_addCamp_48 (fun h48 => ?_) (fun h48 => ?_)
              · skip
                have hno : ∀ j, 0 ≤ j → j < (gF G 7 0 2) → (gA G 65 0 (j)) ≠ c := fun j a b => hn j a (by omega)
                refine pw_aload r_7_addCamp_70 rfl ?_
                refine pw_getR r_7_addCamp_71 fs_7_0 (by decide) ?_
                refine pw_iload r_7_addCamp_74 rfl ?_
                refine pw_const r_7_addCamp_75 ?_
                refine pw_callV (av := [vI (c), vI (16)]) (st := []) (ls0 := [some (vR 2 (0)), some (vI (c)), some (vI (16)), none, none]) r_7_addCamp_77 rfl rfl rfl (Nat.le_refl _) ?_
                refine sp_X2_farFrom (by first | assumption | exact hc | omega) (by first | assumption | exact hr | omega) ?_ ?_
                · skip
                  intro qf; exact absurd (show _ ∧ _ from ⟨by omega, by omega⟩) qf
                · skip
                  intro qf1 qf2 Dr fr hDr hbr rr hrr
                  refine pw_if_ge r_7_addCamp_80 (fun h80 => ?_) (fun h80 => ?_)
                  · skip
                    have hDt := hDr.2.1 16 (by omega) (by omega)
                    refine pw_aload r_7_addCamp_86 rfl ?_
                    refine pw_getIv (v := gF G 7 (0) 2) r_7_addCamp_87 fs_7_2 (by decide) (by first | rfl | simp [gF_sF, gF_sA, gF_uA, gF_sD, gA_sF, gA_sA, gA_uA, gA_sD, gD_sF, gD_sA, gD_uA, gD_sD]) ?_
                    refine pw_const r_7_addCamp_90 ?_
                    refine pw_icmp_lt r_7_addCamp_92 (fun h92 => ?_) (fun h92 => ?_)
                    · skip
                      refine pw_aload r_7_addCamp_98 rfl ?_
                      refine pw_getR r_7_addCamp_99 fs_7_3 (by decide) ?_
                      refine pw_aload r_7_addCamp_102 rfl ?_
                      refine pw_getIv (v := gF G 7 (0) 2) r_7_addCamp_103 fs_7_2 (by decide) (by first | rfl | simp [gF_sF, gF_sA, gF_uA, gF_sD, gA_sF, gA_sA, gA_uA, gA_sD, gD_sF, gD_sA, gD_uA, gD_sD]) ?_
                      refine pw_iload r_7_addCamp_106 rfl ?_
                      refine pw_iast r_7_addCamp_107 sh65 (by omega) (by omega) ?_
                      refine pw_aload r_7_addCamp_108 rfl ?_
                      refine pw_getR r_7_addCamp_109 fs_7_4 (by decide) ?_
                      refine pw_aload r_7_addCamp_112 rfl ?_
                      refine pw_getIv (v := gF G 7 (0) 2) r_7_addCamp_113 fs_7_2 (by decide) (by first | rfl | simp [gF_sF, gF_sA, gF_uA, gF_sD, gA_sF, gA_sA, gA_uA, gA_sD, gD_sF, gD_sA, gD_uA, gD_sD]) ?_
                      refine pw_iload r_7_addCamp_116 rfl ?_
                      refine pw_iast r_7_addCamp_117 sh66 (by omega) (by omega) ?_
                      refine pw_aload r_7_addCamp_118 rfl ?_
                      refine pw_getR r_7_addCamp_119 fs_7_5 (by decide) ?_
                      refine pw_aload r_7_addCamp_122 rfl ?_
                      refine pw_getIv (v := gF G 7 (0) 2) r_7_addCamp_123 fs_7_2 (by decide) (by first | rfl | simp [gF_sF, gF_sA, gF_uA, gF_sD, gA_sF, gA_sA, gA_uA, gA_sD, gD_sF, gD_sA, gD_uA, gD_sD]) ?_
                      refine pw_iload r_7_addCamp_126 rfl ?_
                      refine pw_iast r_7_addCamp_127 sh67 (by omega) (by omega) ?_
                      refine pw_aload r_7_addCamp_128 rfl ?_
                      refine pw_dup r_7_addCamp_129 rfl ?_
                      refine pw_getIv (v := gF G 7 (0) 2) r_7_addCamp_130 fs_7_2 (by decide) (by first | rfl | simp [gF_sF, gF_sA, gF_uA, gF_sD, gA_sF, gA_sA, gA_uA, gA_sD, gD_sF, gD_sA, gD_uA, gD_sD]) ?_
                      refine pw_const r_7_addCamp_133 ?_
                      refine pw_iadd r_7_addCamp_134 (by omega) ?_
                      refine pw_putI r_7_addCamp_135 (by decide +kernel) fs_7_2 (by decide) ?_
                      refine pw_aload r_7_addCamp_138 rfl ?_
                      refine pw_getIv (v := ((gF G 7 (0) 2) + 1)) r_7_addCamp_139 fs_7_2 (by decide) (by first | rfl | simp [gF_sF, gF_sA, gF_uA, gF_sD, gA_sF, gA_sA, gA_uA, gA_sD, gD_sF, gD_sA, gD_uA, gD_sD]) ?_
                      refine pw_iret r_7_addCamp_142 rfl (Nat.le_refl _) ⟨rfl, ?_⟩
                      first | exact h1 (fun q => by omega) | exact h1 (fun q => absurd (show (gA G 65 0 (i)) = c by omega) (q.2 i (by omega) (by omega))) | exact h2 ⟨by omega, by omega, by omega, by omega⟩ hno Dr fr hDr hbr (by omega) | exact h3 ⟨by omega, by omega, by omega, by omega⟩ hno Dr fr hDr hbr (by omega) (by omega) | exact pe (h4 ⟨by omega, by omega, by omega, by omega⟩ hno Dr fr hDr hbr (by omega) (by omega)) (by first | rfl | omega)
                    · skip
                      refine pw_const r_7_addCamp_95 ?_
                      refine pw_iret r_7_addCamp_97 rfl (Nat.le_refl _) ⟨rfl, ?_⟩
                      first | exact h1 (fun q => by omega) | exact h1 (fun q => absurd (show (gA G 65 0 (i)) = c by omega) (q.2 i (by omega) (by omega))) | exact h2 ⟨by omega, by omega, by omega, by omega⟩ hno Dr fr hDr hbr (by omega) | exact h3 ⟨by omega, by omega, by omega, by omega⟩ hno Dr fr hDr hbr (by omega) (by omega) | exact pe (h4 ⟨by omega, by omega, by omega, by omega⟩ hno Dr fr hDr hbr (by omega) (by omega)) (by first | rfl | omega)
                  · skip
                    have hDt := hDr.2.1 16 (by omega) (by omega)
                    refine pw_const r_7_addCamp_83 ?_
                    refine pw_iret r_7_addCamp_85 rfl (Nat.le_refl _) ⟨rfl, ?_⟩
                    first | exact h1 (fun q => by omega) | exact h1 (fun q => absurd (show (gA G 65 0 (i)) = c by omega) (q.2 i (by omega) (by omega))) | exact h2 ⟨by omega, by omega, by omega, by omega⟩ hno Dr fr hDr hbr (by omega) | exact h3 ⟨by omega, by omega, by omega, by omega⟩ hno Dr fr hDr hbr (by omega) (by omega) | exact pe (h4 ⟨by omega, by omega, by omega, by omega⟩ hno Dr fr hDr hbr (by omega) (by omega)) (by first | rfl | omega)
              · skip
                refine pw_aload r_7_addCamp_51 rfl ?_
                refine pw_getR r_7_addCamp_52 fs_7_3 (by decide) ?_
                refine pw_iload r_7_addCamp_55 rfl ?_
                refine pw_iald r_7_addCamp_57 sh65 (by omega) (by omega) ?_
                refine pw_iload r_7_addCamp_58 rfl ?_
                refine pw_icmp_ne r_7_addCamp_59 (fun h59 => ?_) (fun h59 => ?_)
                · skip
                  refine pw_iinc (b := 0) (ls' := [some (vR 7 (0)), some (vI (c)), some (vI (s)), some (vI (f)), some (vI ((i + 1)))]) r_7_addCamp_64 rfl rfl (by omega) rfl ?_
                  refine pw_goto r_7_addCamp_67 ?_
                  exact ih42 ((i + 1)) (by omega) (all_s hn (by omega)) (by omega)
                · skip
                  refine pw_const r_7_addCamp_62 ?_
                  refine pw_iret r_7_addCamp_63 rfl (Nat.le_refl _) ⟨rfl, ?_⟩
                  first | exact h1 (fun q => by omega) | exact h1 (fun q => absurd (show (gA G 65 0 (i)) = c by omega) (q.2 i (by omega) (by omega))) | exact h2 ⟨by omega, by omega, by omega, by omega⟩ hno Dr fr hDr hbr (by omega) | exact h3 ⟨by omega, by omega, by omega, by omega⟩ hno Dr fr hDr hbr (by omega) (by omega) | exact pe (h4 ⟨by omega, by omega, by omega, by omega⟩ hno Dr fr hDr hbr (by omega) (by omega)) (by first | rfl | omega)
          exact L42 _ (0) (by omega) (fun j a b => by omega) (Nat.lt_succ_self _)
        · skip
          refine pw_const r_7_addCamp_37 ?_
          refine pw_iret r_7_addCamp_38 rfl (Nat.le_refl _) ⟨rfl, ?_⟩
          first | exact h1 (fun q => by omega) | exact h1 (fun q => absurd (show (gA G 65 0 (i)) = c by omega) (q.2 i (by omega) (by omega))) | exact h2 ⟨by omega, by omega, by omega, by omega⟩ hno Dr fr hDr hbr (by omega) | exact h3 ⟨by omega, by omega, by omega, by omega⟩ hno Dr fr hDr hbr (by omega) (by omega) | exact pe (h4 ⟨by omega, by omega, by omega, by omega⟩ hno Dr fr hDr hbr (by omega) (by omega)) (by first | rfl | omega)
set_option maxRecDepth 10000 in
theorem sp_X12_load {l : Launch} {w : Wo} {d : Nat} {G : PH} {P : Option PV → PH → Prop} {c s f : Int} (hc : 0 ≤ (gF G 12 0 3) ∧ (gF G 12 0 3) ≤ 16) (hr : ∀ k, 0 ≤ k → k < 324 → 0 ≤ (gA G 202 0 (k)) ∧ (gA G 202 0 (k)) ≤ 9) (hto : 0 ≤ (gF G 12 0 71) ∧ (gF G 12 0 71) ≤ 6) (h1 : ¬ (((0 ≤ c ∧ c < (gF G 12 0 3)) ∧ (0 ≤ s ∧ s ≤ 99) ∧ (0 ≤ f ∧ f ≤ 99) ∧ s + f ≠ 0) ∧ (∀ i, 0 ≤ i → i < (gF G 12 0 71) → (gA G 248 0 (i)) ≠ c)) → P (some (vI (-1))) G) (h2 : ((0 ≤ c ∧ c < (gF G 12 0 3)) ∧ (0 ≤ s ∧ s ≤ 99) ∧ (0 ≤ f ∧ f ≤ 99) ∧ s + f ≠ 0) → (∀ i, 0 ≤ i → i < (gF G 12 0 71) → (gA G 248 0 (i)) ≠ c) → ∀ Dr, IsD (fun u v => (gA G 202 0 (18 * u + v))) (fun u => u = c ∨ 16 ≤ u ∨ (gA G 200 0 (u)) = (gA G 200 0 (c))) c 100000 Dr → 100000 ≤ Dr 16 → P (some (vI (-4))) (uA G 234 0 Dr)) (h3 : ((0 ≤ c ∧ c < (gF G 12 0 3)) ∧ (0 ≤ s ∧ s ≤ 99) ∧ (0 ≤ f ∧ f ≤ 99) ∧ s + f ≠ 0) → (∀ i, 0 ≤ i → i < (gF G 12 0 71) → (gA G 248 0 (i)) ≠ c) → ∀ Dr, IsD (fun u v => (gA G 202 0 (18 * u + v))) (fun u => u = c ∨ 16 ≤ u ∨ (gA G 200 0 (u)) = (gA G 200 0 (c))) c 100000 Dr → Dr 16 < 100000 → (gF G 12 0 71) = 6 → P (some (vI (-2))) (uA G 234 0 Dr)) (h4 : ((0 ≤ c ∧ c < (gF G 12 0 3)) ∧ (0 ≤ s ∧ s ≤ 99) ∧ (0 ≤ f ∧ f ≤ 99) ∧ s + f ≠ 0) → (∀ i, 0 ≤ i → i < (gF G 12 0 71) → (gA G 248 0 (i)) ≠ c) → ∀ Dr, IsD (fun u v => (gA G 202 0 (18 * u + v))) (fun u => u = c ∨ 16 ≤ u ∨ (gA G 200 0 (u)) = (gA G 200 0 (c))) c 100000 Dr → Dr 16 < 100000 → (gF G 12 0 71) < 6 → P (some (vI ((gF G 12 0 71) + 1))) (sF (sA (sA (sA ((uA G 234 0 Dr)) 248 0 ((gF G 12 0 71)) (c)) 249 0 ((gF G 12 0 71)) (s)) 250 0 ((gF G 12 0 71)) (f)) 12 0 71 ((gF G 12 0 71) + 1))) : PW l w M_X12_load (d + 2) 0 [some (vR 12 (0)), some (vI (c)), some (vI (s)), some (vI (f)), none] [] G P := by
  refine pw_aload r_12_load_0 rfl ?_
  refine pw_iload r_12_load_1 rfl ?_
  refine pw_callV (av := [vI (c)]) (st := []) (ls0 := [some (vR 12 (0)), some (vI (c))]) r_12_load_2 rfl rfl rfl (Nat.le_refl _) ?_
  refine sp_X12_isCamp  ?_
  refine pw_if_eqB r_12_load_5 (fun h05 => ?_) (fun h05 => ?_)
  · skip
    refine pw_const r_12_load_34 ?_
    refine pw_iret r_12_load_35 rfl (Nat.le_refl _) ⟨rfl, ?_⟩
    first | exact h1 (fun q => by omega) | exact h1 (fun q => absurd (show (gA G 248 0 (i)) = c by omega) (q.2 i (by omega) (by omega))) | exact h2 ⟨by omega, by omega, by omega, by omega⟩ hno Dr hDr (by omega) | exact h3 ⟨by omega, by omega, by omega, by omega⟩ hno Dr hDr (by omega) (by omega) | exact pe (h4 ⟨by omega, by omega, by omega, by omega⟩ hno Dr hDr (by omega) (by omega)) (by first | rfl | omega)
  · skip
    refine pw_iload r_12_load_8 rfl ?_
    refine pw_const r_12_load_9 ?_
    refine pw_const r_12_load_10 ?_
    refine pw_callS (av := [vI (s), vI (0), vI (99)]) (st := []) (ls0 := [some (vI (s)), some (vI (0)), some (vI (99))]) r_12_load_12 rfl rfl rfl (Nat.le_refl _) ?_
    refine sp_X12_within  ?_
    refine pw_if_eqB r_12_load_15 (fun h15 => ?_) (fun h15 => ?_)
    · skip
      refine pw_const r_12_load_34 ?_
      refine pw_iret r_12_load_35 rfl (Nat.le_refl _) ⟨rfl, ?_⟩
      first | exact h1 (fun q => by omega) | exact h1 (fun q => absurd (show (gA G 248 0 (i)) = c by omega) (q.2 i (by omega) (by omega))) | exact h2 ⟨by omega, by omega, by omega, by omega⟩ hno Dr hDr (by omega) | exact h3 ⟨by omega, by omega, by omega, by omega⟩ hno Dr hDr (by omega) (by omega) | exact pe (h4 ⟨by omega, by omega, by omega, by omega⟩ hno Dr hDr (by omega) (by omega)) (by first | rfl | omega)
    · skip
      refine pw_iload r_12_load_18 rfl ?_
      refine pw_const r_12_load_19 ?_
      refine pw_const r_12_load_20 ?_
      refine pw_callS (av := [vI (f), vI (0), vI (99)]) (st := []) (ls0 := [some (vI (f)), some (vI (0)), some (vI (99))]) r_12_load_22 rfl rfl rfl (Nat.le_refl _) ?_
      refine sp_X12_within  ?_
      refine pw_if_eqB r_12_load_25 (fun h25 => ?_) (fun h25 => ?_)
      · skip
        refine pw_const r_12_load_34 ?_
        refine pw_iret r_12_load_35 rfl (Nat.le_refl _) ⟨rfl, ?_⟩
        first | exact h1 (fun q => by omega) | exact h1 (fun q => absurd (show (gA G 248 0 (i)) = c by omega) (q.2 i (by omega) (by omega))) | exact h2 ⟨by omega, by omega, by omega, by omega⟩ hno Dr hDr (by omega) | exact h3 ⟨by omega, by omega, by omega, by omega⟩ hno Dr hDr (by omega) (by omega) | exact pe (h4 ⟨by omega, by omega, by omega, by omega⟩ hno Dr hDr (by omega) (by omega)) (by first | rfl | omega)
      · skip
        refine pw_iload r_12_load_28 rfl ?_
        refine pw_iload r_12_load_29 rfl ?_
        refine pw_iadd r_12_load_30 (by omega) ?_
        refine pw_if_ne r_12_load_31 (fun h31 => ?_) (fun h31 => ?_)
        · skip
          refine pw_const r_12_load_36 ?_
          refine pw_istore (ls' := [some (vR 12 (0)), some (vI (c)), some (vI (s)), some (vI (f)), some (vI (0))]) r_12_load_37 rfl rfl ?_
          have L39 : ∀ (nF : Nat) (i : Int), (hi : 0 ≤ i ∧ i ≤ (gF G 12 0 71)) → (hn : ∀ j, 0 ≤ j → j < i → (gA G 248 0 (j)) ≠ c) → ((gF G 12 0 71) - i).toNat < nF → PW l w M_X12_load (d + 2) 39 [some (vR 12 (0)), some (vI (c)), some (vI (s)), some (vI (f)), some (vI (i))] [] G P := by
            intro nF
            induction nF with
            | zero => intro _ _ _ hM; exact absurd hM (Nat.not_lt_zero _)
            | succ nF ih39 =>
              intro i hi hn hM39
              refine pw_iload r_12_load_39 rfl ?_
              refine pw_aload r_12_load_41 rfl ?_
              refine pw_getI r_12_load_42 fs_12_71 (by decide) ?_
              refine pw_icmp_ge r_12_load_45 (fun h45 => ?_) (fun h45 => ?_)
              · skip
                have hno : ∀ j, 0 ≤ j → j < (gF G 12 0 71) → (gA G 248 0 (j)) ≠ c := fun j a b => hn j a (by omega)
                refine pw_aload r_12_load_67 rfl ?_
                refine pw_iload r_12_load_68 rfl ?_
                refine pw_const r_12_load_69 ?_
                refine pw_callV (av := [vI (c), vI (16)]) (st := []) (ls0 := [some (vR 12 (0)), some (vI (c)), some (vI (16)), none, none, none, none, none]) r_12_load_71 rfl rfl rfl (Nat.le_refl _) ?_
                refine sp_X12_farOf (by first | assumption | exact hc | omega) (by first | assumption | exact hp | omega) (by first | assumption | exact hr | omega) ?_
                intro Dr hDr
                refine pw_const r_12_load_74 ?_
                refine pw_icmp_lt r_12_load_77 (fun h77 => ?_) (fun h77 => ?_)
                · skip
                  refine pw_aload r_12_load_83 rfl ?_
                  refine pw_getIv (v := gF G 12 (0) 71) r_12_load_84 fs_12_71 (by decide) (by first | rfl | simp [gF_sF, gF_sA, gF_uA, gF_sD, gA_sF, gA_sA, gA_uA, gA_sD, gD_sF, gD_sA, gD_uA, gD_sD]) ?_
                  refine pw_const r_12_load_87 ?_
                  refine pw_icmp_ne r_12_load_89 (fun h89 => ?_) (fun h89 => ?_)
                  · skip
                    refine pw_aload r_12_load_95 rfl ?_
                    refine pw_getR r_12_load_96 fs_12_68 (by decide) ?_
                    refine pw_aload r_12_load_99 rfl ?_
                    refine pw_getIv (v := gF G 12 (0) 71) r_12_load_100 fs_12_71 (by decide) (by first | rfl | simp [gF_sF, gF_sA, gF_uA, gF_sD, gA_sF, gA_sA, gA_uA, gA_sD, gD_sF, gD_sA, gD_uA, gD_sD]) ?_
                    refine pw_iload r_12_load_103 rfl ?_
                    refine pw_iast r_12_load_104 sh248 (by omega) (by omega) ?_
                    refine pw_aload r_12_load_105 rfl ?_
                    refine pw_getR r_12_load_106 fs_12_69 (by decide) ?_
                    refine pw_aload r_12_load_109 rfl ?_
                    refine pw_getIv (v := gF G 12 (0) 71) r_12_load_110 fs_12_71 (by decide) (by first | rfl | simp [gF_sF, gF_sA, gF_uA, gF_sD, gA_sF, gA_sA, gA_uA, gA_sD, gD_sF, gD_sA, gD_uA, gD_sD]) ?_
                    refine pw_iload r_12_load_113 rfl ?_
                    refine pw_iast r_12_load_114 sh249 (by omega) (by omega) ?_
                    refine pw_aload r_12_load_115 rfl ?_
                    refine pw_getR r_12_load_116 fs_12_70 (by decide) ?_
                    refine pw_aload r_12_load_119 rfl ?_
                    refine pw_getIv (v := gF G 12 (0) 71) r_12_load_120 fs_12_71 (by decide) (by first | rfl | simp [gF_sF, gF_sA, gF_uA, gF_sD, gA_sF, gA_sA, gA_uA, gA_sD, gD_sF, gD_sA, gD_uA, gD_sD]) ?_
                    refine pw_iload r_12_load_123 rfl ?_
                    refine pw_iast r_12_load_124 sh250 (by omega) (by omega) ?_
                    refine pw_aload r_12_load_125 rfl ?_
                    refine pw_dup r_12_load_126 rfl ?_
                    refine pw_getIv (v := gF G 12 (0) 71) r_12_load_127 fs_12_71 (by decide) (by first | rfl | simp [gF_sF, gF_sA, gF_uA, gF_sD, gA_sF, gA_sA, gA_uA, gA_sD, gD_sF, gD_sA, gD_uA, gD_sD]) ?_
                    refine pw_const r_12_load_130 ?_
                    refine pw_iadd r_12_load_131 (by omega) ?_
                    refine pw_putI r_12_load_132 (by decide +kernel) fs_12_71 (by decide) ?_
                    refine pw_aload r_12_load_135 rfl ?_
                    refine pw_getIv (v := ((gF G 12 (0) 71) + 1)) r_12_load_136 fs_12_71 (by decide) (by first | rfl | simp [gF_sF, gF_sA, gF_uA, gF_sD, gA_sF, gA_sA, gA_uA, gA_sD, gD_sF, gD_sA, gD_uA, gD_sD]) ?_
                    refine pw_iret r_12_load_139 rfl (Nat.le_refl _) ⟨rfl, ?_⟩
                    first | exact h1 (fun q => by omega) | exact h1 (fun q => absurd (show (gA G 248 0 (i)) = c by omega) (q.2 i (by omega) (by omega))) | exact h2 ⟨by omega, by omega, by omega, by omega⟩ hno Dr hDr (by omega) | exact h3 ⟨by omega, by omega, by omega, by omega⟩ hno Dr hDr (by omega) (by omega) | exact pe (h4 ⟨by omega, by omega, by omega, by omega⟩ hno Dr hDr (by omega) (by omega)) (by first | rfl | omega)
                  · skip
                    refine pw_const r_12_load_92 ?_
                    refine pw_iret r_12_load_94 rfl (Nat.le_refl _) ⟨rfl, ?_⟩
                    first | exact h1 (fun q => by omega) | exact h1 (fun q => absurd (show (gA G 248 0 (i)) = c by omega) (q.2 i (by omega) (by omega))) | exact h2 ⟨by omega, by omega, by omega, by omega⟩ hno Dr hDr (by omega) | exact h3 ⟨by omega, by omega, by omega, by omega⟩ hno Dr hDr (by omega) (by omega) | exact pe (h4 ⟨by omega, by omega, by omega, by omega⟩ hno Dr hDr (by omega) (by omega)) (by first | rfl | omega)
                · skip
                  refine pw_const r_12_load_80 ?_
                  refine pw_iret r_12_load_82 rfl (Nat.le_refl _) ⟨rfl, ?_⟩
                  first | exact h1 (fun q => by omega) | exact h1 (fun q => absurd (show (gA G 248 0 (i)) = c by omega) (q.2 i (by omega) (by omega))) | exact h2 ⟨by omega, by omega, by omega, by omega⟩ hno Dr hDr (by omega) | exact h3 ⟨by omega, by omega, by omega, by omega⟩ hno Dr hDr (by omega) (by omega) | exact pe (h4 ⟨by omega, by omega, by omega, by omega⟩ hno Dr hDr (by omega) (by omega)) (by first | rfl | omega)
              · skip
                refine pw_aload r_12_load_48 rfl ?_
                refine pw_getR r_12_load_49 fs_12_68 (by decide) ?_
                refine pw_iload r_12_load_52 rfl ?_
                refine pw_iald r_12_load_54 sh248 (by omega) (by omega) ?_
                refine pw_iload r_12_load_55 rfl ?_
                refine pw_icmp_ne r_12_load_56 (fun h56 => ?_) (fun h56 => ?_)
                · skip
                  refine pw_iinc (b := 0) (ls' := [some (vR 12 (0)), some (vI (c)), some (vI (s)), some (vI (f)), some (vI ((i + 1)))]) r_12_load_61 rfl rfl (by omega) rfl ?_
                  refine pw_goto r_12_load_64 ?_
                  exact ih39 ((i + 1)) (by omega) (all_s hn (by omega)) (by omega)
                · skip
                  refine pw_const r_12_load_59 ?_
                  refine pw_iret r_12_load_60 rfl (Nat.le_refl _) ⟨rfl, ?_⟩
                  first | exact h1 (fun q => by omega) | exact h1 (fun q => absurd (show (gA G 248 0 (i)) = c by omega) (q.2 i (by omega) (by omega))) | exact h2 ⟨by omega, by omega, by omega, by omega⟩ hno Dr hDr (by omega) | exact h3 ⟨by omega, by omega, by omega, by omega⟩ hno Dr hDr (by omega) (by omega) | exact pe (h4 ⟨by omega, by omega, by omega, by omega⟩ hno Dr hDr (by omega) (by omega)) (by first | rfl | omega)
          exact L39 _ (0) (by omega) (fun j a b => by omega) (Nat.lt_succ_self _)
        · skip
          refine pw_const r_12_load_34 ?_
          refine pw_iret r_12_load_35 rfl (Nat.le_refl _) ⟨rfl, ?_⟩
          first | exact h1 (fun q => by omega) | exact h1 (fun q => absurd (show (gA G 248 0 (i)) = c by omega) (q.2 i (by omega) (by omega))) | exact h2 ⟨by omega, by omega, by omega, by omega⟩ hno Dr hDr (by omega) | exact h3 ⟨by omega, by omega, by omega, by omega⟩ hno Dr hDr (by omega) (by omega) | exact pe (h4 ⟨by omega, by omega, by omega, by omega⟩ hno Dr hDr (by omega) (by omega)) (by first | rfl | omega)
set_option maxRecDepth 10000 in
theorem sp_X7_tellVoyage {l : Launch} {w : Wo} {d : Nat} {G : PH} {P : Option PV → PH → Prop} {i k : Int} (hv : (gF G 7 0 16) ≤ 6) (h1 : ¬ ((0 ≤ i ∧ i < (gF G 7 0 16)) ∧ 0 ≤ k ∧ k ≤ 1) → P (some (vI (-1))) G) (h2 : ((0 ≤ i ∧ i < (gF G 7 0 16)) ∧ 0 ≤ k ∧ k ≤ 1) → ∀ v, (k = 0 ∧ v = (gA G 74 0 (i))) ∨ (k = 1 ∧ v = (gA G 75 0 (i))) → P (some (vI v)) G) : PW l w M_X7_tellVoyage (d + 1) 0 [some (vR 7 (0)), some (vI (i)), some (vI (k))] [] G P := by
  refine pw_iload r_7_tellVoyage_0 rfl ?_
  refine pw_if_lt r_7_tellVoyage_1 (fun h01 => ?_) (fun h01 => ?_)
  · skip
    refine pw_const r_7_tellVoyage_21 ?_
    refine pw_iret r_7_tellVoyage_22 rfl (Nat.le_refl _) ⟨rfl, ?_⟩
    first | exact h1 (by omega) | exact h2 (by omega) _ (by omega)
  · skip
    refine pw_iload r_7_tellVoyage_4 rfl ?_
    refine pw_aload r_7_tellVoyage_5 rfl ?_
    refine pw_getI r_7_tellVoyage_6 fs_7_16 (by decide) ?_
    refine pw_icmp_ge r_7_tellVoyage_9 (fun h09 => ?_) (fun h09 => ?_)
    · skip
      refine pw_const r_7_tellVoyage_21 ?_
      refine pw_iret r_7_tellVoyage_22 rfl (Nat.le_refl _) ⟨rfl, ?_⟩
      first | exact h1 (by omega) | exact h2 (by omega) _ (by omega)
    · skip
      refine pw_iload r_7_tellVoyage_12 rfl ?_
      refine pw_const r_7_tellVoyage_13 ?_
      refine pw_const r_7_tellVoyage_14 ?_
      refine pw_callS (av := [vI (k), vI (0), vI (1)]) (st := []) (ls0 := [some (vI (k)), some (vI (0)), some (vI (1))]) r_7_tellVoyage_15 rfl rfl rfl (Nat.le_refl _) ?_
      refine sp_X11_within  ?_
      refine pw_if_neB r_7_tellVoyage_18 (fun h18 => ?_) (fun h18 => ?_)
      · skip
        refine pw_iload r_7_tellVoyage_23 rfl ?_
        refine pw_if_ne r_7_tellVoyage_24 (fun h24 => ?_) (fun h24 => ?_)
        · skip
          refine pw_aload r_7_tellVoyage_36 rfl ?_
          refine pw_getR r_7_tellVoyage_37 fs_7_15 (by decide) ?_
          refine pw_iload r_7_tellVoyage_40 rfl ?_
          refine pw_iald r_7_tellVoyage_41 sh75 (by omega) (by omega) ?_
          refine pw_iret r_7_tellVoyage_42 rfl (Nat.le_refl _) ⟨rfl, ?_⟩
          first | exact h1 (by omega) | exact h2 (by omega) _ (by omega)
        · skip
          refine pw_aload r_7_tellVoyage_27 rfl ?_
          refine pw_getR r_7_tellVoyage_28 fs_7_14 (by decide) ?_
          refine pw_iload r_7_tellVoyage_31 rfl ?_
          refine pw_iald r_7_tellVoyage_32 sh74 (by omega) (by omega) ?_
          refine pw_goto r_7_tellVoyage_33 ?_
          refine pw_iret r_7_tellVoyage_42 rfl (Nat.le_refl _) ⟨rfl, ?_⟩
          first | exact h1 (by omega) | exact h2 (by omega) _ (by omega)
      · skip
        refine pw_const r_7_tellVoyage_21 ?_
        refine pw_iret r_7_tellVoyage_22 rfl (Nat.le_refl _) ⟨rfl, ?_⟩
        first | exact h1 (by omega) | exact h2 (by omega) _ (by omega)
set_option maxRecDepth 10000 in
theorem sp_X12_voyage {l : Launch} {w : Wo} {d : Nat} {G : PH} {P : Option PV → PH → Prop} {i k : Int} (hv : (gF G 12 0 77) ≤ 6) (h1 : ¬ ((0 ≤ i ∧ i < (gF G 12 0 77)) ∧ 0 ≤ k ∧ k ≤ 1) → P (some (vI (-1))) G) (h2 : ((0 ≤ i ∧ i < (gF G 12 0 77)) ∧ 0 ≤ k ∧ k ≤ 1) → ∀ v, (k = 0 ∧ v = (gA G 254 0 (i))) ∨ (k = 1 ∧ v = (gA G 255 0 (i))) → P (some (vI v)) G) : PW l w M_X12_voyage (d + 1) 0 [some (vR 12 (0)), some (vI (i)), some (vI (k))] [] G P := by
  refine pw_iload r_12_voyage_0 rfl ?_
  refine pw_if_lt r_12_voyage_1 (fun h01 => ?_) (fun h01 => ?_)
  · skip
    refine pw_const r_12_voyage_21 ?_
    refine pw_iret r_12_voyage_22 rfl (Nat.le_refl _) ⟨rfl, ?_⟩
    first | exact h1 (by omega) | exact h2 (by omega) _ (by omega)
  · skip
    refine pw_iload r_12_voyage_4 rfl ?_
    refine pw_aload r_12_voyage_5 rfl ?_
    refine pw_getI r_12_voyage_6 fs_12_77 (by decide) ?_
    refine pw_icmp_ge r_12_voyage_9 (fun h09 => ?_) (fun h09 => ?_)
    · skip
      refine pw_const r_12_voyage_21 ?_
      refine pw_iret r_12_voyage_22 rfl (Nat.le_refl _) ⟨rfl, ?_⟩
      first | exact h1 (by omega) | exact h2 (by omega) _ (by omega)
    · skip
      refine pw_iload r_12_voyage_12 rfl ?_
      refine pw_const r_12_voyage_13 ?_
      refine pw_const r_12_voyage_14 ?_
      refine pw_callS (av := [vI (k), vI (0), vI (1)]) (st := []) (ls0 := [some (vI (k)), some (vI (0)), some (vI (1))]) r_12_voyage_15 rfl rfl rfl (Nat.le_refl _) ?_
      refine sp_X12_within  ?_
      refine pw_if_neB r_12_voyage_18 (fun h18 => ?_) (fun h18 => ?_)
      · skip
        refine pw_iload r_12_voyage_23 rfl ?_
        refine pw_if_ne r_12_voyage_24 (fun h24 => ?_) (fun h24 => ?_)
        · skip
          refine pw_aload r_12_voyage_36 rfl ?_
          refine pw_getR r_12_voyage_37 fs_12_76 (by decide) ?_
          refine pw_iload r_12_voyage_40 rfl ?_
          refine pw_iald r_12_voyage_41 sh255 (by omega) (by omega) ?_
          refine pw_iret r_12_voyage_42 rfl (Nat.le_refl _) ⟨rfl, ?_⟩
          first | exact h1 (by omega) | exact h2 (by omega) _ (by omega)
        · skip
          refine pw_aload r_12_voyage_27 rfl ?_
          refine pw_getR r_12_voyage_28 fs_12_75 (by decide) ?_
          refine pw_iload r_12_voyage_31 rfl ?_
          refine pw_iald r_12_voyage_32 sh254 (by omega) (by omega) ?_
          refine pw_goto r_12_voyage_33 ?_
          refine pw_iret r_12_voyage_42 rfl (Nat.le_refl _) ⟨rfl, ?_⟩
          first | exact h1 (by omega) | exact h2 (by omega) _ (by omega)
      · skip
        refine pw_const r_12_voyage_21 ?_
        refine pw_iret r_12_voyage_22 rfl (Nat.le_refl _) ⟨rfl, ?_⟩
        first | exact h1 (by omega) | exact h2 (by omega) _ (by omega)
set_option maxRecDepth 10000 in
theorem sp_X0_addWalker {l : Launch} {w : Wo} {d : Nat} {G : PH} {P : Option PV → PH → Prop} {r n : Int} (hwk : ∀ r, 0 ≤ r → r < 2 → 0 ≤ (gA G 22 0 (r)) ∧ (gA G 22 0 (r)) ≤ 10) (h1 : ¬ ((0 ≤ r ∧ r ≤ 1) ∧ 1 ≤ n ∧ n ≤ 9) → P (some (vI (-1))) G) (h2 : (((0 ≤ r ∧ r ≤ 1) ∧ 1 ≤ n ∧ n ≤ 9)) → (10 ≤ (gA G 22 0 (r))) → P (some (vI (-2))) G) (h3 : (((0 ≤ r ∧ r ≤ 1) ∧ 1 ≤ n ∧ n ≤ 9)) → (¬ (10 ≤ (gA G 22 0 (r)))) → P (some (vI ((gA G 22 0 (r)) + 1))) (sA (sA G 21 (r) ((gA G 22 0 (r))) (n)) 22 0 (r) ((gA G 22 0 (r)) + 1))) : PW l w M_X0_addWalker (d + 1) 0 [some (vR 0 (0)), some (vI (r)), some (vI (n))] [] G P := by
  refine pw_iload r_0_addWalker_0 rfl ?_
  refine pw_const r_0_addWalker_1 ?_
  refine pw_const r_0_addWalker_2 ?_
  refine pw_callS (av := [vI (r), vI (0), vI (1)]) (st := []) (ls0 := [some (vI (r)), some (vI (0)), some (vI (1))]) r_0_addWalker_3 rfl rfl rfl (Nat.le_refl _) ?_
  refine sp_X11_within  ?_
  refine pw_if_eqB r_0_addWalker_6 (fun h06 => ?_) (fun h06 => ?_)
  · skip
    refine pw_const r_0_addWalker_19 ?_
    refine pw_iret r_0_addWalker_20 rfl (Nat.le_refl _) ⟨rfl, ?_⟩
    first | exact h1 (by omega) | exact h2 (by omega) (by omega) | exact pe (h3 (by omega) (by omega)) (by first | rfl | omega)
  · skip
    refine pw_iload r_0_addWalker_9 rfl ?_
    refine pw_const r_0_addWalker_10 ?_
    refine pw_const r_0_addWalker_11 ?_
    refine pw_callS (av := [vI (n), vI (1), vI (9)]) (st := []) (ls0 := [some (vI (n)), some (vI (1)), some (vI (9))]) r_0_addWalker_13 rfl rfl rfl (Nat.le_refl _) ?_
    refine sp_X11_within  ?_
    refine pw_if_neB r_0_addWalker_16 (fun h16 => ?_) (fun h16 => ?_)
    · skip
      have hr := hwk r (by omega) (by omega)
      refine pw_aload r_0_addWalker_21 rfl ?_
      refine pw_getR r_0_addWalker_22 fs_0_1 (by decide) ?_
      refine pw_iload r_0_addWalker_25 rfl ?_
      refine pw_iald r_0_addWalker_26 sh22 (by omega) (by omega) ?_
      refine pw_const r_0_addWalker_27 ?_
      refine pw_icmp_lt r_0_addWalker_29 (fun h29 => ?_) (fun h29 => ?_)
      · skip
        refine pw_aload r_0_addWalker_35 rfl ?_
        refine pw_getR r_0_addWalker_36 fs_0_0 (by decide) ?_
        refine pw_iload r_0_addWalker_39 rfl ?_
        refine pw_aaldS r_0_addWalker_40 sh20 (by decide) (by decide) aS20 rw21 (by omega) (by omega) ?_
        refine pw_aload r_0_addWalker_41 rfl ?_
        refine pw_getR r_0_addWalker_42 fs_0_1 (by decide) ?_
        refine pw_iload r_0_addWalker_45 rfl ?_
        refine pw_iald r_0_addWalker_46 sh22 (by omega) (by omega) ?_
        refine pw_iload r_0_addWalker_47 rfl ?_
        refine pw_iast r_0_addWalker_48 sh21 (by omega) (by omega) ?_
        refine pw_aload r_0_addWalker_49 rfl ?_
        refine pw_getR r_0_addWalker_50 fs_0_1 (by decide) ?_
        refine pw_iload r_0_addWalker_53 rfl ?_
        refine pw_dup2 r_0_addWalker_54 rfl rfl ?_
        refine pw_ialdv (v := gA G 22 (0) (r)) r_0_addWalker_55 sh22 (by omega) (by omega) (by first | rfl | simp [gF_sF, gF_sA, gF_uA, gF_sD, gA_sF, gA_sA, gA_uA, gA_sD, gD_sF, gD_sA, gD_uA, gD_sD]) ?_
        refine pw_const r_0_addWalker_56 ?_
        refine pw_iadd r_0_addWalker_57 (by omega) ?_
        refine pw_iast r_0_addWalker_58 sh22 (by omega) (by omega) ?_
        refine pw_aload r_0_addWalker_59 rfl ?_
        refine pw_getR r_0_addWalker_60 fs_0_1 (by decide) ?_
        refine pw_iload r_0_addWalker_63 rfl ?_
        refine pw_ialdv (v := ((gA G 22 (0) (r)) + 1)) r_0_addWalker_64 sh22 (by omega) (by omega) (by first | rfl | simp [gF_sF, gF_sA, gF_uA, gF_sD, gA_sF, gA_sA, gA_uA, gA_sD, gD_sF, gD_sA, gD_uA, gD_sD]) ?_
        refine pw_iret r_0_addWalker_65 rfl (Nat.le_refl _) ⟨rfl, ?_⟩
        first | exact h1 (by omega) | exact h2 (by omega) (by omega) | exact pe (h3 (by omega) (by omega)) (by first | rfl | omega)
      · skip
        refine pw_const r_0_addWalker_32 ?_
        refine pw_iret r_0_addWalker_34 rfl (Nat.le_refl _) ⟨rfl, ?_⟩
        first | exact h1 (by omega) | exact h2 (by omega) (by omega) | exact pe (h3 (by omega) (by omega)) (by first | rfl | omega)
    · skip
      refine pw_const r_0_addWalker_19 ?_
      refine pw_iret r_0_addWalker_20 rfl (Nat.le_refl _) ⟨rfl, ?_⟩
      first | exact h1 (by omega) | exact h2 (by omega) (by omega) | exact pe (h3 (by omega) (by omega)) (by first | rfl | omega)
set_option maxRecDepth 10000 in
theorem sp_X12_walker {l : Launch} {w : Wo} {d : Nat} {G : PH} {P : Option PV → PH → Prop} {r n : Int} (hwk : ∀ r, 0 ≤ r → r < 2 → 0 ≤ (gA G 257 0 (r)) ∧ (gA G 257 0 (r)) ≤ 10) (h1 : ¬ ((0 ≤ r ∧ r ≤ 1) ∧ 1 ≤ n ∧ n ≤ 9) → P (some (vI (-1))) G) (h2 : (((0 ≤ r ∧ r ≤ 1) ∧ 1 ≤ n ∧ n ≤ 9)) → (10 ≤ (gA G 257 0 (r))) → P (some (vI (-2))) G) (h3 : (((0 ≤ r ∧ r ≤ 1) ∧ 1 ≤ n ∧ n ≤ 9)) → (¬ (10 ≤ (gA G 257 0 (r)))) → P (some (vI ((gA G 257 0 (r)) + 1))) (sA (sA G 256 0 (10 * r + (gA G 257 0 (r))) (n)) 257 0 (r) ((gA G 257 0 (r)) + 1))) : PW l w M_X12_walker (d + 2) 0 [some (vR 12 (0)), some (vI (r)), some (vI (n))] [] G P := by
  refine pw_iload r_12_walker_0 rfl ?_
  refine pw_callS (av := [vI (r)]) (st := []) (ls0 := [some (vI (r))]) r_12_walker_1 rfl rfl rfl (Nat.le_refl _) ?_
  refine sp_X12_isSide  ?_
  refine pw_if_eqB r_12_walker_4 (fun h04 => ?_) (fun h04 => ?_)
  · skip
    refine pw_const r_12_walker_17 ?_
    refine pw_iret r_12_walker_18 rfl (Nat.le_refl _) ⟨rfl, ?_⟩
    first | exact h1 (by omega) | exact h2 (by omega) (by omega) | exact pe (h3 (by omega) (by omega)) (by first | rfl | omega)
  · skip
    refine pw_iload r_12_walker_7 rfl ?_
    refine pw_const r_12_walker_8 ?_
    refine pw_const r_12_walker_9 ?_
    refine pw_callS (av := [vI (n), vI (1), vI (9)]) (st := []) (ls0 := [some (vI (n)), some (vI (1)), some (vI (9))]) r_12_walker_11 rfl rfl rfl (Nat.le_refl _) ?_
    refine sp_X12_within  ?_
    refine pw_if_neB r_12_walker_14 (fun h14 => ?_) (fun h14 => ?_)
    · skip
      have hr := hwk r (by omega) (by omega)
      refine pw_aload r_12_walker_19 rfl ?_
      refine pw_getR r_12_walker_20 fs_12_83 (by decide) ?_
      refine pw_iload r_12_walker_23 rfl ?_
      refine pw_iald r_12_walker_24 sh257 (by omega) (by omega) ?_
      refine pw_const r_12_walker_25 ?_
      refine pw_icmp_ne r_12_walker_27 (fun h27 => ?_) (fun h27 => ?_)
      · skip
        refine pw_aload r_12_walker_33 rfl ?_
        refine pw_getR r_12_walker_34 fs_12_82 (by decide) ?_
        refine pw_const r_12_walker_37 ?_
        refine pw_iload r_12_walker_39 rfl ?_
        refine pw_imul r_12_walker_40 (by omega) ?_
        refine pw_aload r_12_walker_41 rfl ?_
        refine pw_getR r_12_walker_42 fs_12_83 (by decide) ?_
        refine pw_iload r_12_walker_45 rfl ?_
        refine pw_iald r_12_walker_46 sh257 (by omega) (by omega) ?_
        refine pw_iadd r_12_walker_47 (by omega) ?_
        refine pw_iload r_12_walker_48 rfl ?_
        refine pw_iast r_12_walker_49 sh256 (by omega) (by omega) ?_
        refine pw_aload r_12_walker_50 rfl ?_
        refine pw_getR r_12_walker_51 fs_12_83 (by decide) ?_
        refine pw_iload r_12_walker_54 rfl ?_
        refine pw_dup2 r_12_walker_55 rfl rfl ?_
        refine pw_ialdv (v := gA G 257 (0) (r)) r_12_walker_56 sh257 (by omega) (by omega) (by first | rfl | simp [gF_sF, gF_sA, gF_uA, gF_sD, gA_sF, gA_sA, gA_uA, gA_sD, gD_sF, gD_sA, gD_uA, gD_sD]) ?_
        refine pw_const r_12_walker_57 ?_
        refine pw_iadd r_12_walker_58 (by omega) ?_
        refine pw_iast r_12_walker_59 sh257 (by omega) (by omega) ?_
        refine pw_aload r_12_walker_60 rfl ?_
        refine pw_getR r_12_walker_61 fs_12_83 (by decide) ?_
        refine pw_iload r_12_walker_64 rfl ?_
        refine pw_ialdv (v := ((gA G 257 (0) (r)) + 1)) r_12_walker_65 sh257 (by omega) (by omega) (by first | rfl | simp [gF_sF, gF_sA, gF_uA, gF_sD, gA_sF, gA_sA, gA_uA, gA_sD, gD_sF, gD_sA, gD_uA, gD_sD]) ?_
        refine pw_iret r_12_walker_66 rfl (Nat.le_refl _) ⟨rfl, ?_⟩
        first | exact h1 (by omega) | exact h2 (by omega) (by omega) | exact pe (h3 (by omega) (by omega)) (by first | rfl | omega)
      · skip
        refine pw_const r_12_walker_30 ?_
        refine pw_iret r_12_walker_32 rfl (Nat.le_refl _) ⟨rfl, ?_⟩
        first | exact h1 (by omega) | exact h2 (by omega) (by omega) | exact pe (h3 (by omega) (by omega)) (by first | rfl | omega)
    · skip
      refine pw_const r_12_walker_17 ?_
      refine pw_iret r_12_walker_18 rfl (Nat.le_refl _) ⟨rfl, ?_⟩
      first | exact h1 (by omega) | exact h2 (by omega) (by omega) | exact pe (h3 (by omega) (by omega)) (by first | rfl | omega)
set_option maxRecDepth 10000 in
theorem sp_X0_tellBegan {l : Launch} {w : Wo} {d : Nat} {G : PH} {P : Option PV → PH → Prop} {m : Int} (hl : (gF G 0 0 8) ≤ 180) (h1 : ¬ (0 ≤ m ∧ m < (gF G 0 0 8)) → P (some (vI (-1))) G) (h2 : (0 ≤ m ∧ m < (gF G 0 0 8)) → P (some (vI (gA G 29 0 (m)))) G) : PW l w M_X0_tellBegan (d + 0) 0 [some (vR 0 (0)), some (vI (m))] [] G P := by
  refine pw_iload r_0_tellBegan_0 rfl ?_
  refine pw_if_lt r_0_tellBegan_1 (fun h01 => ?_) (fun h01 => ?_)
  · skip
    refine pw_const r_0_tellBegan_30 ?_
    refine pw_iret r_0_tellBegan_31 rfl (Nat.le_refl _) ⟨rfl, ?_⟩
    first | exact h1 (by omega) | exact h2 (by omega)
  · skip
    refine pw_iload r_0_tellBegan_4 rfl ?_
    refine pw_aload r_0_tellBegan_5 rfl ?_
    refine pw_getI r_0_tellBegan_6 fs_0_8 (by decide) ?_
    refine pw_icmp_ge r_0_tellBegan_9 (fun h09 => ?_) (fun h09 => ?_)
    · skip
      refine pw_const r_0_tellBegan_30 ?_
      refine pw_iret r_0_tellBegan_31 rfl (Nat.le_refl _) ⟨rfl, ?_⟩
      first | exact h1 (by omega) | exact h2 (by omega)
    · skip
      refine pw_iload r_0_tellBegan_12 rfl ?_
      refine pw_aload r_0_tellBegan_13 rfl ?_
      refine pw_getR r_0_tellBegan_14 fs_0_7 (by decide) ?_
      refine pw_alen r_0_tellBegan_17 sh29 (by decide) ?_
      refine pw_top (b := 180) rfl ?_
      refine pw_icmp_ge r_0_tellBegan_18 (fun h18 => ?_) (fun h18 => ?_)
      · skip
        refine pw_const r_0_tellBegan_30 ?_
        refine pw_iret r_0_tellBegan_31 rfl (Nat.le_refl _) ⟨rfl, ?_⟩
        first | exact h1 (by omega) | exact h2 (by omega)
      · skip
        refine pw_aload r_0_tellBegan_21 rfl ?_
        refine pw_getR r_0_tellBegan_22 fs_0_7 (by decide) ?_
        refine pw_iload r_0_tellBegan_25 rfl ?_
        refine pw_iald r_0_tellBegan_26 sh29 (by omega) (by omega) ?_
        refine pw_goto r_0_tellBegan_27 ?_
        refine pw_iret r_0_tellBegan_31 rfl (Nat.le_refl _) ⟨rfl, ?_⟩
        first | exact h1 (by omega) | exact h2 (by omega)
set_option maxRecDepth 10000 in
theorem sp_X12_began {l : Launch} {w : Wo} {d : Nat} {G : PH} {P : Option PV → PH → Prop} {m : Int} (hl : (gF G 12 0 87) ≤ 180) (h1 : ¬ (0 ≤ m ∧ m < (gF G 12 0 87)) → P (some (vI (-1))) G) (h2 : (0 ≤ m ∧ m < (gF G 12 0 87)) → P (some (vI (gA G 259 0 (m)))) G) : PW l w M_X12_began (d + 0) 0 [some (vR 12 (0)), some (vI (m))] [] G P := by
  refine pw_iload r_12_began_0 rfl ?_
  refine pw_if_lt r_12_began_1 (fun h01 => ?_) (fun h01 => ?_)
  · skip
    refine pw_const r_12_began_21 ?_
    refine pw_iret r_12_began_22 rfl (Nat.le_refl _) ⟨rfl, ?_⟩
    first | exact h1 (by omega) | exact h2 (by omega)
  · skip
    refine pw_iload r_12_began_4 rfl ?_
    refine pw_aload r_12_began_5 rfl ?_
    refine pw_getI r_12_began_6 fs_12_87 (by decide) ?_
    refine pw_icmp_ge r_12_began_9 (fun h09 => ?_) (fun h09 => ?_)
    · skip
      refine pw_const r_12_began_21 ?_
      refine pw_iret r_12_began_22 rfl (Nat.le_refl _) ⟨rfl, ?_⟩
      first | exact h1 (by omega) | exact h2 (by omega)
    · skip
      refine pw_aload r_12_began_12 rfl ?_
      refine pw_getR r_12_began_13 fs_12_86 (by decide) ?_
      refine pw_iload r_12_began_16 rfl ?_
      refine pw_iald r_12_began_17 sh259 (by omega) (by omega) ?_
      refine pw_goto r_12_began_18 ?_
      refine pw_iret r_12_began_22 rfl (Nat.le_refl _) ⟨rfl, ?_⟩
      first | exact h1 (by omega) | exact h2 (by omega)
set_option maxRecDepth 10000 in
theorem sp_X1_addSought {l : Launch} {w : Wo} {d : Nat} {G : PH} {P : Option PV → PH → Prop} {c a b : Int} (hc : 0 ≤ (gF G 2 0 2) ∧ (gF G 2 0 2) ≤ 16) (hso : 0 ≤ (gF G 1 0 13) ∧ (gF G 1 0 13) ≤ 5) (h1 : ¬ ((0 ≤ c ∧ c < (gF G 2 0 2)) ∧ (0 ≤ a ∧ a ≤ 600) ∧ (0 ≤ b ∧ b ≤ 600) ∧ a ≤ b) → P (some (vI (-1))) G) (h2 : (((0 ≤ c ∧ c < (gF G 2 0 2)) ∧ (0 ≤ a ∧ a ≤ 600) ∧ (0 ≤ b ∧ b ≤ 600) ∧ a ≤ b)) → (5 ≤ (gF G 1 0 13)) → P (some (vI (-2))) G) (h3 : (((0 ≤ c ∧ c < (gF G 2 0 2)) ∧ (0 ≤ a ∧ a ≤ 600) ∧ (0 ≤ b ∧ b ≤ 600) ∧ a ≤ b)) → (¬ (5 ≤ (gF G 1 0 13))) → P (some (vI ((gF G 1 0 13) + 1))) (sF (sA (sA (sA G 36 0 ((gF G 1 0 13)) (c)) 37 0 ((gF G 1 0 13)) (a)) 38 0 ((gF G 1 0 13)) (b)) 1 0 13 ((gF G 1 0 13) + 1))) : PW l w M_X1_addSought (d + 2) 0 [some (vR 1 (0)), some (vI (c)), some (vI (a)), some (vI (b))] [] G P := by
  refine pw_aload r_1_addSought_0 rfl ?_
  refine pw_getR r_1_addSought_1 fs_1_4 (by decide) ?_
  refine pw_iload r_1_addSought_4 rfl ?_
  refine pw_callV (av := [vI (c)]) (st := []) (ls0 := [some (vR 2 (0)), some (vI (c))]) r_1_addSought_5 rfl rfl rfl (Nat.le_refl _) ?_
  refine sp_X2_isCamp (by first | assumption | exact hc | omega) ?_
  refine pw_if_eqB r_1_addSought_8 (fun h08 => ?_) (fun h08 => ?_)
  · skip
    refine pw_const r_1_addSought_30 ?_
    refine pw_iret r_1_addSought_31 rfl (Nat.le_refl _) ⟨rfl, ?_⟩
    first | exact h1 (by omega) | exact h2 (by omega) (by omega) | exact pe (h3 (by omega) (by omega)) (by first | rfl | omega)
  · skip
    refine pw_iload r_1_addSought_11 rfl ?_
    refine pw_callS (av := [vI (a)]) (st := []) (ls0 := [some (vI (a))]) r_1_addSought_12 rfl rfl rfl (Nat.le_refl _) ?_
    refine sp_X11_isDay  ?_
    refine pw_if_eqB r_1_addSought_15 (fun h15 => ?_) (fun h15 => ?_)
    · skip
      refine pw_const r_1_addSought_30 ?_
      refine pw_iret r_1_addSought_31 rfl (Nat.le_refl _) ⟨rfl, ?_⟩
      first | exact h1 (by omega) | exact h2 (by omega) (by omega) | exact pe (h3 (by omega) (by omega)) (by first | rfl | omega)
    · skip
      refine pw_iload r_1_addSought_18 rfl ?_
      refine pw_callS (av := [vI (b)]) (st := []) (ls0 := [some (vI (b))]) r_1_addSought_19 rfl rfl rfl (Nat.le_refl _) ?_
      refine sp_X11_isDay  ?_
      refine pw_if_eqB r_1_addSought_22 (fun h22 => ?_) (fun h22 => ?_)
      · skip
        refine pw_const r_1_addSought_30 ?_
        refine pw_iret r_1_addSought_31 rfl (Nat.le_refl _) ⟨rfl, ?_⟩
        first | exact h1 (by omega) | exact h2 (by omega) (by omega) | exact pe (h3 (by omega) (by omega)) (by first | rfl | omega)
      · skip
        refine pw_iload r_1_addSought_25 rfl ?_
        refine pw_iload r_1_addSought_26 rfl ?_
        refine pw_icmp_le r_1_addSought_27 (fun h27 => ?_) (fun h27 => ?_)
        · skip
          refine pw_aload r_1_addSought_32 rfl ?_
          refine pw_getI r_1_addSought_33 fs_1_13 (by decide) ?_
          refine pw_const r_1_addSought_36 ?_
          refine pw_icmp_lt r_1_addSought_37 (fun h37 => ?_) (fun h37 => ?_)
          · skip
            refine pw_aload r_1_addSought_43 rfl ?_
            refine pw_getR r_1_addSought_44 fs_1_10 (by decide) ?_
            refine pw_aload r_1_addSought_47 rfl ?_
            refine pw_getI r_1_addSought_48 fs_1_13 (by decide) ?_
            refine pw_iload r_1_addSought_51 rfl ?_
            refine pw_iast r_1_addSought_52 sh36 (by omega) (by omega) ?_
            refine pw_aload r_1_addSought_53 rfl ?_
            refine pw_getR r_1_addSought_54 fs_1_11 (by decide) ?_
            refine pw_aload r_1_addSought_57 rfl ?_
            refine pw_getIv (v := gF G 1 (0) 13) r_1_addSought_58 fs_1_13 (by decide) (by first | rfl | simp [gF_sF, gF_sA, gF_uA, gF_sD, gA_sF, gA_sA, gA_uA, gA_sD, gD_sF, gD_sA, gD_uA, gD_sD]) ?_
            refine pw_iload r_1_addSought_61 rfl ?_
            refine pw_iast r_1_addSought_62 sh37 (by omega) (by omega) ?_
            refine pw_aload r_1_addSought_63 rfl ?_
            refine pw_getR r_1_addSought_64 fs_1_12 (by decide) ?_
            refine pw_aload r_1_addSought_67 rfl ?_
            refine pw_getIv (v := gF G 1 (0) 13) r_1_addSought_68 fs_1_13 (by decide) (by first | rfl | simp [gF_sF, gF_sA, gF_uA, gF_sD, gA_sF, gA_sA, gA_uA, gA_sD, gD_sF, gD_sA, gD_uA, gD_sD]) ?_
            refine pw_iload r_1_addSought_71 rfl ?_
            refine pw_iast r_1_addSought_72 sh38 (by omega) (by omega) ?_
            refine pw_aload r_1_addSought_73 rfl ?_
            refine pw_dup r_1_addSought_74 rfl ?_
            refine pw_getIv (v := gF G 1 (0) 13) r_1_addSought_75 fs_1_13 (by decide) (by first | rfl | simp [gF_sF, gF_sA, gF_uA, gF_sD, gA_sF, gA_sA, gA_uA, gA_sD, gD_sF, gD_sA, gD_uA, gD_sD]) ?_
            refine pw_const r_1_addSought_78 ?_
            refine pw_iadd r_1_addSought_79 (by omega) ?_
            refine pw_putI r_1_addSought_80 (by decide +kernel) fs_1_13 (by decide) ?_
            refine pw_aload r_1_addSought_83 rfl ?_
            refine pw_getIv (v := ((gF G 1 (0) 13) + 1)) r_1_addSought_84 fs_1_13 (by decide) (by first | rfl | simp [gF_sF, gF_sA, gF_uA, gF_sD, gA_sF, gA_sA, gA_uA, gA_sD, gD_sF, gD_sA, gD_uA, gD_sD]) ?_
            refine pw_iret r_1_addSought_87 rfl (Nat.le_refl _) ⟨rfl, ?_⟩
            first | exact h1 (by omega) | exact h2 (by omega) (by omega) | exact pe (h3 (by omega) (by omega)) (by first | rfl | omega)
          · skip
            refine pw_const r_1_addSought_40 ?_
            refine pw_iret r_1_addSought_42 rfl (Nat.le_refl _) ⟨rfl, ?_⟩
            first | exact h1 (by omega) | exact h2 (by omega) (by omega) | exact pe (h3 (by omega) (by omega)) (by first | rfl | omega)
        · skip
          refine pw_const r_1_addSought_30 ?_
          refine pw_iret r_1_addSought_31 rfl (Nat.le_refl _) ⟨rfl, ?_⟩
          first | exact h1 (by omega) | exact h2 (by omega) (by omega) | exact pe (h3 (by omega) (by omega)) (by first | rfl | omega)
set_option maxRecDepth 10000 in
theorem sp_X12_sought {l : Launch} {w : Wo} {d : Nat} {G : PH} {P : Option PV → PH → Prop} {c a b : Int} (hso : 0 ≤ (gF G 12 0 91) ∧ (gF G 12 0 91) ≤ 5) (h1 : ¬ ((0 ≤ c ∧ c < (gF G 12 0 3)) ∧ (0 ≤ a ∧ a ≤ 600) ∧ (0 ≤ b ∧ b ≤ 600) ∧ a ≤ b) → P (some (vI (-1))) G) (h2 : (((0 ≤ c ∧ c < (gF G 12 0 3)) ∧ (0 ≤ a ∧ a ≤ 600) ∧ (0 ≤ b ∧ b ≤ 600) ∧ a ≤ b)) → (5 ≤ (gF G 12 0 91)) → P (some (vI (-2))) G) (h3 : (((0 ≤ c ∧ c < (gF G 12 0 3)) ∧ (0 ≤ a ∧ a ≤ 600) ∧ (0 ≤ b ∧ b ≤ 600) ∧ a ≤ b)) → (¬ (5 ≤ (gF G 12 0 91))) → P (some (vI ((gF G 12 0 91) + 1))) (sF (sA (sA (sA G 260 0 ((gF G 12 0 91)) (c)) 261 0 ((gF G 12 0 91)) (a)) 262 0 ((gF G 12 0 91)) (b)) 12 0 91 ((gF G 12 0 91) + 1))) : PW l w M_X12_sought (d + 2) 0 [some (vR 12 (0)), some (vI (c)), some (vI (a)), some (vI (b))] [] G P := by
  refine pw_aload r_12_sought_0 rfl ?_
  refine pw_iload r_12_sought_1 rfl ?_
  refine pw_callV (av := [vI (c)]) (st := []) (ls0 := [some (vR 12 (0)), some (vI (c))]) r_12_sought_2 rfl rfl rfl (Nat.le_refl _) ?_
  refine sp_X12_isCamp  ?_
  refine pw_if_eqB r_12_sought_5 (fun h05 => ?_) (fun h05 => ?_)
  · skip
    refine pw_const r_12_sought_27 ?_
    refine pw_iret r_12_sought_28 rfl (Nat.le_refl _) ⟨rfl, ?_⟩
    first | exact h1 (by omega) | exact h2 (by omega) (by omega) | exact pe (h3 (by omega) (by omega)) (by first | rfl | omega)
  · skip
    refine pw_iload r_12_sought_8 rfl ?_
    refine pw_callS (av := [vI (a)]) (st := []) (ls0 := [some (vI (a))]) r_12_sought_9 rfl rfl rfl (Nat.le_refl _) ?_
    refine sp_X12_isDay  ?_
    refine pw_if_eqB r_12_sought_12 (fun h12 => ?_) (fun h12 => ?_)
    · skip
      refine pw_const r_12_sought_27 ?_
      refine pw_iret r_12_sought_28 rfl (Nat.le_refl _) ⟨rfl, ?_⟩
      first | exact h1 (by omega) | exact h2 (by omega) (by omega) | exact pe (h3 (by omega) (by omega)) (by first | rfl | omega)
    · skip
      refine pw_iload r_12_sought_15 rfl ?_
      refine pw_callS (av := [vI (b)]) (st := []) (ls0 := [some (vI (b))]) r_12_sought_16 rfl rfl rfl (Nat.le_refl _) ?_
      refine sp_X12_isDay  ?_
      refine pw_if_eqB r_12_sought_19 (fun h19 => ?_) (fun h19 => ?_)
      · skip
        refine pw_const r_12_sought_27 ?_
        refine pw_iret r_12_sought_28 rfl (Nat.le_refl _) ⟨rfl, ?_⟩
        first | exact h1 (by omega) | exact h2 (by omega) (by omega) | exact pe (h3 (by omega) (by omega)) (by first | rfl | omega)
      · skip
        refine pw_iload r_12_sought_22 rfl ?_
        refine pw_iload r_12_sought_23 rfl ?_
        refine pw_icmp_le r_12_sought_24 (fun h24 => ?_) (fun h24 => ?_)
        · skip
          refine pw_aload r_12_sought_29 rfl ?_
          refine pw_getI r_12_sought_30 fs_12_91 (by decide) ?_
          refine pw_const r_12_sought_33 ?_
          refine pw_icmp_ne r_12_sought_34 (fun h34 => ?_) (fun h34 => ?_)
          · skip
            refine pw_aload r_12_sought_40 rfl ?_
            refine pw_getR r_12_sought_41 fs_12_88 (by decide) ?_
            refine pw_aload r_12_sought_44 rfl ?_
            refine pw_getI r_12_sought_45 fs_12_91 (by decide) ?_
            refine pw_iload r_12_sought_48 rfl ?_
            refine pw_iast r_12_sought_49 sh260 (by omega) (by omega) ?_
            refine pw_aload r_12_sought_50 rfl ?_
            refine pw_getR r_12_sought_51 fs_12_89 (by decide) ?_
            refine pw_aload r_12_sought_54 rfl ?_
            refine pw_getIv (v := gF G 12 (0) 91) r_12_sought_55 fs_12_91 (by decide) (by first | rfl | simp [gF_sF, gF_sA, gF_uA, gF_sD, gA_sF, gA_sA, gA_uA, gA_sD, gD_sF, gD_sA, gD_uA, gD_sD]) ?_
            refine pw_iload r_12_sought_58 rfl ?_
            refine pw_iast r_12_sought_59 sh261 (by omega) (by omega) ?_
            refine pw_aload r_12_sought_60 rfl ?_
            refine pw_getR r_12_sought_61 fs_12_90 (by decide) ?_
            refine pw_aload r_12_sought_64 rfl ?_
            refine pw_getIv (v := gF G 12 (0) 91) r_12_sought_65 fs_12_91 (by decide) (by first | rfl | simp [gF_sF, gF_sA, gF_uA, gF_sD, gA_sF, gA_sA, gA_uA, gA_sD, gD_sF, gD_sA, gD_uA, gD_sD]) ?_
            refine pw_iload r_12_sought_68 rfl ?_
            refine pw_iast r_12_sought_69 sh262 (by omega) (by omega) ?_
            refine pw_aload r_12_sought_70 rfl ?_
            refine pw_dup r_12_sought_71 rfl ?_
            refine pw_getIv (v := gF G 12 (0) 91) r_12_sought_72 fs_12_91 (by decide) (by first | rfl | simp [gF_sF, gF_sA, gF_uA, gF_sD, gA_sF, gA_sA, gA_uA, gA_sD, gD_sF, gD_sA, gD_uA, gD_sD]) ?_
            refine pw_const r_12_sought_75 ?_
            refine pw_iadd r_12_sought_76 (by omega) ?_
            refine pw_putI r_12_sought_77 (by decide +kernel) fs_12_91 (by decide) ?_
            refine pw_aload r_12_sought_80 rfl ?_
            refine pw_getIv (v := ((gF G 12 (0) 91) + 1)) r_12_sought_81 fs_12_91 (by decide) (by first | rfl | simp [gF_sF, gF_sA, gF_uA, gF_sD, gA_sF, gA_sA, gA_uA, gA_sD, gD_sF, gD_sA, gD_uA, gD_sD]) ?_
            refine pw_iret r_12_sought_84 rfl (Nat.le_refl _) ⟨rfl, ?_⟩
            first | exact h1 (by omega) | exact h2 (by omega) (by omega) | exact pe (h3 (by omega) (by omega)) (by first | rfl | omega)
          · skip
            refine pw_const r_12_sought_37 ?_
            refine pw_iret r_12_sought_39 rfl (Nat.le_refl _) ⟨rfl, ?_⟩
            first | exact h1 (by omega) | exact h2 (by omega) (by omega) | exact pe (h3 (by omega) (by omega)) (by first | rfl | omega)
        · skip
          refine pw_const r_12_sought_27 ?_
          refine pw_iret r_12_sought_28 rfl (Nat.le_refl _) ⟨rfl, ?_⟩
          first | exact h1 (by omega) | exact h2 (by omega) (by omega) | exact pe (h3 (by omega) (by omega)) (by first | rfl | omega)
set_option maxRecDepth 10000 in
theorem sp_X1_couldBeSought {l : Launch} {w : Wo} {d : Nat} {G : PH} {P : Option PV → PH → Prop} {p : Int} (hst : 0 ≤ (gF G 1 0 3) ∧ (gF G 1 0 3) ≤ 400) (hso : 0 ≤ (gF G 1 0 13) ∧ (gF G 1 0 13) ≤ 5) (hP : P (some (vI (b2i (∀ x, 0 ≤ x → x < (gF G 1 0 3) → ∀ y, 0 ≤ y → y < (gF G 1 0 13) → ((gA G 32 0 (x)) = p → ((gA G 34 0 (x)) ≤ (gA G 38 0 (y)) ∧ (gA G 37 0 (y)) ≤ (gA G 38 0 (y)) ∧ (((gA G 35 0 (x)) = -1 ∧ (gA G 34 0 (x)) ≤ (gF G 1 0 2) ∧ (gA G 37 0 (y)) ≤ (gF G 1 0 2)) ∨ ((gA G 35 0 (x)) ≠ -1 ∧ (gA G 34 0 (x)) ≤ (gA G 35 0 (x)) ∧ (gA G 37 0 (y)) ≤ (gA G 35 0 (x))))) → (gA G 33 0 (x)) = (gA G 36 0 (y))))))) G) : PW l w M_X1_couldBeSought (d + 1) 0 [some (vR 1 (0)), some (vI (p)), none, none, none, none] [] G P := by
  refine pw_const r_1_couldBeSought_0 ?_
  refine pw_istore (ls' := [some (vR 1 (0)), some (vI (p)), some (vI (0)), none, none, none]) r_1_couldBeSought_1 rfl rfl ?_
  have L2 : ∀ (nF : Nat) (s : Int), (hi : 0 ≤ s ∧ s ≤ (gF G 1 0 3)) → (hn : ∀ x, 0 ≤ x → x < s → ∀ y, 0 ≤ y → y < (gF G 1 0 13) → ((gA G 32 0 (x)) = p → ((gA G 34 0 (x)) ≤ (gA G 38 0 (y)) ∧ (gA G 37 0 (y)) ≤ (gA G 38 0 (y)) ∧ (((gA G 35 0 (x)) = -1 ∧ (gA G 34 0 (x)) ≤ (gF G 1 0 2) ∧ (gA G 37 0 (y)) ≤ (gF G 1 0 2)) ∨ ((gA G 35 0 (x)) ≠ -1 ∧ (gA G 34 0 (x)) ≤ (gA G 35 0 (x)) ∧ (gA G 37 0 (y)) ≤ (gA G 35 0 (x))))) → (gA G 33 0 (x)) = (gA G 36 0 (y)))) → ((gF G 1 0 3) - s).toNat < nF → PW l w M_X1_couldBeSought (d + 1) 2 [some (vR 1 (0)), some (vI (p)), some (vI (s)), none, none, none] [] G P := by
    intro nF
    induction nF with
    | zero => intro _ _ _ hM; exact absurd hM (Nat.not_lt_zero _)
    | succ nF ih2 =>
      intro s hi hn hM2
      refine pw_iload r_1_couldBeSought_2 rfl ?_
      refine pw_aload r_1_couldBeSought_3 rfl ?_
      refine pw_getI r_1_couldBeSought_4 fs_1_3 (by decide) ?_
      refine pw_icmp_ge r_1_couldBeSought_7 (fun h07 => ?_) (fun h07 => ?_)
      · skip
        refine pw_const r_1_couldBeSought_131 ?_
        refine pw_zret r_1_couldBeSought_132 rfl (Or.inr rfl) (Nat.le_refl _) ⟨rfl, ?_⟩
        exact pe hP (b2i_t (fun x a b => hn x a (by omega))).symm
      · skip
        refine pw_aload r_1_couldBeSought_10 rfl ?_
        refine pw_getR r_1_couldBeSought_11 fs_1_6 (by decide) ?_
        refine pw_iload r_1_couldBeSought_14 rfl ?_
        refine pw_iald r_1_couldBeSought_15 sh32 (by omega) (by omega) ?_
        refine pw_iload r_1_couldBeSought_16 rfl ?_
        refine pw_icmp_eq r_1_couldBeSought_17 (fun h17 => ?_) (fun h17 => ?_)
        · skip
          refine pw_aload r_1_couldBeSought_23 rfl ?_
          refine pw_getR r_1_couldBeSought_24 fs_1_9 (by decide) ?_
          refine pw_iload r_1_couldBeSought_27 rfl ?_
          refine pw_iald r_1_couldBeSought_28 sh35 (by omega) (by omega) ?_
          refine pw_const r_1_couldBeSought_29 ?_
          refine pw_icmp_ne r_1_couldBeSought_30 (fun h30 => ?_) (fun h30 => ?_)
          · skip
            refine pw_aload r_1_couldBeSought_40 rfl ?_
            refine pw_getR r_1_couldBeSought_41 fs_1_9 (by decide) ?_
            refine pw_iload r_1_couldBeSought_44 rfl ?_
            refine pw_iald r_1_couldBeSought_45 sh35 (by omega) (by omega) ?_
            refine pw_istore (ls' := [some (vR 1 (0)), some (vI (p)), some (vI (s)), some (vI (gA G 35 (0) (s))), none, none]) r_1_couldBeSought_46 rfl rfl ?_
            refine pw_const r_1_couldBeSought_47 ?_
            refine pw_istore (ls' := [some (vR 1 (0)), some (vI (p)), some (vI (s)), some (vI (gA G 35 (0) (s))), some (vI (0)), none]) r_1_couldBeSought_48 rfl rfl ?_
            have L50 : ∀ (nF : Nat) (t z : Int), (ht : 0 ≤ t ∧ t ≤ (gF G 1 0 13)) → (hz : ((gA G 35 0 (s)) = -1 ∧ z = (gF G 1 0 2)) ∨ ((gA G 35 0 (s)) ≠ -1 ∧ z = (gA G 35 0 (s)))) → (hm : ∀ y, 0 ≤ y → y < t → ((gA G 32 0 (s)) = p → ((gA G 34 0 (s)) ≤ (gA G 38 0 (y)) ∧ (gA G 37 0 (y)) ≤ (gA G 38 0 (y)) ∧ (((gA G 35 0 (s)) = -1 ∧ (gA G 34 0 (s)) ≤ (gF G 1 0 2) ∧ (gA G 37 0 (y)) ≤ (gF G 1 0 2)) ∨ ((gA G 35 0 (s)) ≠ -1 ∧ (gA G 34 0 (s)) ≤ (gA G 35 0 (s)) ∧ (gA G 37 0 (y)) ≤ (gA G 35 0 (s))))) → (gA G 33 0 (s)) = (gA G 36 0 (y)))) → ((gF G 1 0 13) - t).toNat < nF → PW l w M_X1_couldBeSought (d + 1) 50 [some (vR 1 (0)), some (vI (p)), some (vI (s)), some (vI (z)), some (vI (t)), none] [] G P := by
              intro nF
              induction nF with
              | zero => intro _ _ _ _ _ hM; exact absurd hM (Nat.not_lt_zero _)
              | succ nF ih50 =>
                intro t z ht hz hm hM50
                refine pw_iload r_1_couldBeSought_50 rfl ?_
                refine pw_aload r_1_couldBeSought_52 rfl ?_
                refine pw_getI r_1_couldBeSought_53 fs_1_13 (by decide) ?_
                refine pw_icmp_ge r_1_couldBeSought_56 (fun h56 => ?_) (fun h56 => ?_)
                · skip
                  refine pw_iinc (b := 0) (ls' := [some (vR 1 (0)), some (vI (p)), some (vI ((s + 1))), some (vI (z)), some (vI (t)), none]) r_1_couldBeSought_125 rfl rfl (by omega) rfl ?_
                  refine pw_goto r_1_couldBeSought_128 ?_
                  refine pw_weakL (ls' := [some (vR 1 (0)), some (vI (p)), some (vI ((s + 1))), none, none, none]) (⟨rfl, ⟨rfl, ⟨rfl, trivial⟩⟩⟩) ?_
                  exact ih2 ((s + 1)) (by omega) (all_s hn (by first | exact fun y a b e => absurd e (by omega) | exact fun y a b => hm y a (by omega))) (by omega)
                · skip
                  refine pw_aload r_1_couldBeSought_59 rfl ?_
                  refine pw_getR r_1_couldBeSought_60 fs_1_8 (by decide) ?_
                  refine pw_iload r_1_couldBeSought_63 rfl ?_
                  refine pw_iald r_1_couldBeSought_64 sh34 (by omega) (by omega) ?_
                  refine pw_aload r_1_couldBeSought_65 rfl ?_
                  refine pw_getR r_1_couldBeSought_66 fs_1_11 (by decide) ?_
                  refine pw_iload r_1_couldBeSought_69 rfl ?_
                  refine pw_iald r_1_couldBeSought_71 sh37 (by omega) (by omega) ?_
                  refine pw_mmax r_1_couldBeSought_72 rfl (Nat.le_of_ble_eq_true rfl) (Nat.le_refl _) ?_
                  refine pw_iload r_1_couldBeSought_75 rfl ?_
                  refine pw_aload r_1_couldBeSought_76 rfl ?_
                  refine pw_getR r_1_couldBeSought_77 fs_1_12 (by decide) ?_
                  refine pw_iload r_1_couldBeSought_80 rfl ?_
                  refine pw_iald r_1_couldBeSought_82 sh38 (by omega) (by omega) ?_
                  refine pw_mmin r_1_couldBeSought_83 rfl (Nat.le_of_ble_eq_true rfl) (Nat.le_refl _) ?_
                  refine pw_icmp_gt r_1_couldBeSought_86 (fun h86 => ?_) (fun h86 => ?_)
                  · skip
                    refine pw_const r_1_couldBeSought_93 ?_
                    refine pw_istore (ls' := [some (vR 1 (0)), some (vI (p)), some (vI (s)), some (vI (z)), some (vI (t)), some (vI (0))]) r_1_couldBeSought_94 rfl rfl ?_
                    refine pw_iload r_1_couldBeSought_96 rfl ?_
                    refine pw_if_eq r_1_couldBeSought_98 (fun h98 => ?_) (fun h98 => ?_)
                    · skip
                      refine pw_iinc (b := 0) (ls' := [some (vR 1 (0)), some (vI (p)), some (vI (s)), some (vI (z)), some (vI ((t + 1))), some (vI (0))]) r_1_couldBeSought_119 rfl rfl (by omega) rfl ?_
                      refine pw_goto r_1_couldBeSought_122 ?_
                      refine pw_weakL (ls' := [some (vR 1 (0)), some (vI (p)), some (vI (s)), some (vI (z)), some (vI ((t + 1))), none]) (⟨rfl, ⟨rfl, ⟨rfl, ⟨rfl, ⟨rfl, trivial⟩⟩⟩⟩⟩) ?_
                      exact ih50 ((t + 1)) (z) (by omega) (hz) (all_s hm (by intro _ _; omega)) (by omega)
                    · skip
                      refine pw_aload r_1_couldBeSought_101 rfl ?_
                      refine pw_getR r_1_couldBeSought_102 fs_1_7 (by decide) ?_
                      refine pw_iload r_1_couldBeSought_105 rfl ?_
                      refine pw_iald r_1_couldBeSought_106 sh33 (by omega) (by omega) ?_
                      refine pw_aload r_1_couldBeSought_107 rfl ?_
                      refine pw_getR r_1_couldBeSought_108 fs_1_10 (by decide) ?_
                      refine pw_iload r_1_couldBeSought_111 rfl ?_
                      refine pw_iald r_1_couldBeSought_113 sh36 (by omega) (by omega) ?_
                      refine pw_icmp_eq r_1_couldBeSought_114 (fun h114 => ?_) (fun h114 => ?_)
                      · skip
                        refine pw_iinc (b := 0) (ls' := [some (vR 1 (0)), some (vI (p)), some (vI (s)), some (vI (z)), some (vI ((t + 1))), some (vI (0))]) r_1_couldBeSought_119 rfl rfl (by omega) rfl ?_
                        refine pw_goto r_1_couldBeSought_122 ?_
                        refine pw_weakL (ls' := [some (vR 1 (0)), some (vI (p)), some (vI (s)), some (vI (z)), some (vI ((t + 1))), none]) (⟨rfl, ⟨rfl, ⟨rfl, ⟨rfl, ⟨rfl, trivial⟩⟩⟩⟩⟩) ?_
                        exact ih50 ((t + 1)) (z) (by omega) (hz) (all_s hm (by intro _ _; omega)) (by omega)
                      · skip
                        refine pw_const r_1_couldBeSought_117 ?_
                        refine pw_zret r_1_couldBeSought_118 rfl (Or.inl rfl) (Nat.le_refl _) ⟨rfl, ?_⟩
                        exact pe hP (b2i_f (fun q => by have := q s (by omega) (by omega) t (by omega) (by omega); omega)).symm
                  · skip
                    refine pw_const r_1_couldBeSought_89 ?_
                    refine pw_goto r_1_couldBeSought_90 ?_
                    refine pw_istore (ls' := [some (vR 1 (0)), some (vI (p)), some (vI (s)), some (vI (z)), some (vI (t)), some (vI (1))]) r_1_couldBeSought_94 rfl rfl ?_
                    refine pw_iload r_1_couldBeSought_96 rfl ?_
                    refine pw_if_eq r_1_couldBeSought_98 (fun h98 => ?_) (fun h98 => ?_)
                    · skip
                      refine pw_iinc (b := 0) (ls' := [some (vR 1 (0)), some (vI (p)), some (vI (s)), some (vI (z)), some (vI ((t + 1))), some (vI (1))]) r_1_couldBeSought_119 rfl rfl (by omega) rfl ?_
                      refine pw_goto r_1_couldBeSought_122 ?_
                      refine pw_weakL (ls' := [some (vR 1 (0)), some (vI (p)), some (vI (s)), some (vI (z)), some (vI ((t + 1))), none]) (⟨rfl, ⟨rfl, ⟨rfl, ⟨rfl, ⟨rfl, trivial⟩⟩⟩⟩⟩) ?_
                      exact ih50 ((t + 1)) (z) (by omega) (hz) (all_s hm (by intro _ _; omega)) (by omega)
                    · skip
                      refine pw_aload r_1_couldBeSought_101 rfl ?_
                      refine pw_getR r_1_couldBeSought_102 fs_1_7 (by decide) ?_
                      refine pw_iload r_1_couldBeSought_105 rfl ?_
                      refine pw_iald r_1_couldBeSought_106 sh33 (by omega) (by omega) ?_
                      refine pw_aload r_1_couldBeSought_107 rfl ?_
                      refine pw_getR r_1_couldBeSought_108 fs_1_10 (by decide) ?_
                      refine pw_iload r_1_couldBeSought_111 rfl ?_
                      refine pw_iald r_1_couldBeSought_113 sh36 (by omega) (by omega) ?_
                      refine pw_icmp_eq r_1_couldBeSought_114 (fun h114 => ?_) (fun h114 => ?_)
                      · skip
                        refine pw_iinc (b := 0) (ls' := [some (vR 1 (0)), some (vI (p)), some (vI (s)), some (vI (z)), some (vI ((t + 1))), some (vI (1))]) r_1_couldBeSought_119 rfl rfl (by omega) rfl ?_
                        refine pw_goto r_1_couldBeSought_122 ?_
                        refine pw_weakL (ls' := [some (vR 1 (0)), some (vI (p)), some (vI (s)), some (vI (z)), some (vI ((t + 1))), none]) (⟨rfl, ⟨rfl, ⟨rfl, ⟨rfl, ⟨rfl, trivial⟩⟩⟩⟩⟩) ?_
                        exact ih50 ((t + 1)) (z) (by omega) (hz) (all_s hm (by intro _ _; omega)) (by omega)
                      · skip
                        refine pw_const r_1_couldBeSought_117 ?_
                        refine pw_zret r_1_couldBeSought_118 rfl (Or.inl rfl) (Nat.le_refl _) ⟨rfl, ?_⟩
                        exact pe hP (b2i_f (fun q => by have := q s (by omega) (by omega) t (by omega) (by omega); omega)).symm
            exact L50 _ (0) (gA G 35 (0) (s)) (by omega) (by omega) (fun y a b => by omega) (Nat.lt_succ_self _)
          · skip
            refine pw_aload r_1_couldBeSought_33 rfl ?_
            refine pw_getI r_1_couldBeSought_34 fs_1_2 (by decide) ?_
            refine pw_goto r_1_couldBeSought_37 ?_
            refine pw_istore (ls' := [some (vR 1 (0)), some (vI (p)), some (vI (s)), some (vI (gF G 1 (0) 2)), none, none]) r_1_couldBeSought_46 rfl rfl ?_
            refine pw_const r_1_couldBeSought_47 ?_
            refine pw_istore (ls' := [some (vR 1 (0)), some (vI (p)), some (vI (s)), some (vI (gF G 1 (0) 2)), some (vI (0)), none]) r_1_couldBeSought_48 rfl rfl ?_
            have L50 : ∀ (nF : Nat) (t z : Int), (ht : 0 ≤ t ∧ t ≤ (gF G 1 0 13)) → (hz : ((gA G 35 0 (s)) = -1 ∧ z = (gF G 1 0 2)) ∨ ((gA G 35 0 (s)) ≠ -1 ∧ z = (gA G 35 0 (s)))) → (hm : ∀ y, 0 ≤ y → y < t → ((gA G 32 0 (s)) = p → ((gA G 34 0 (s)) ≤ (gA G 38 0 (y)) ∧ (gA G 37 0 (y)) ≤ (gA G 38 0 (y)) ∧ (((gA G 35 0 (s)) = -1 ∧ (gA G 34 0 (s)) ≤ (gF G 1 0 2) ∧ (gA G 37 0 (y)) ≤ (gF G 1 0 2)) ∨ ((gA G 35 0 (s)) ≠ -1 ∧ (gA G 34 0 (s)) ≤ (gA G 35 0 (s)) ∧ (gA G 37 0 (y)) ≤ (gA G 35 0 (s))))) → (gA G 33 0 (s)) = (gA G 36 0 (y)))) → ((gF G 1 0 13) - t).toNat < nF → PW l w M_X1_couldBeSought (d + 1) 50 [some (vR 1 (0)), some (vI (p)), some (vI (s)), some (vI (z)), some (vI (t)), none] [] G P := by
              intro nF
              induction nF with
              | zero => intro _ _ _ _ _ hM; exact absurd hM (Nat.not_lt_zero _)
              | succ nF ih50 =>
                intro t z ht hz hm hM50
                refine pw_iload r_1_couldBeSought_50 rfl ?_
                refine pw_aload r_1_couldBeSought_52 rfl ?_
                refine pw_getI r_1_couldBeSought_53 fs_1_13 (by decide) ?_
                refine pw_icmp_ge r_1_couldBeSought_56 (fun h56 => ?_) (fun h56 => ?_)
                · skip
                  refine pw_iinc (b := 0) (ls' := [some (vR 1 (0)), some (vI (p)), some (vI ((s + 1))), some (vI (z)), some (vI (t)), none]) r_1_couldBeSought_125 rfl rfl (by omega) rfl ?_
                  refine pw_goto r_1_couldBeSought_128 ?_
                  refine pw_weakL (ls' := [some (vR 1 (0)), some (vI (p)), some (vI ((s + 1))), none, none, none]) (⟨rfl, ⟨rfl, ⟨rfl, trivial⟩⟩⟩) ?_
                  exact ih2 ((s + 1)) (by omega) (all_s hn (by first | exact fun y a b e => absurd e (by omega) | exact fun y a b => hm y a (by omega))) (by omega)
                · skip
                  refine pw_aload r_1_couldBeSought_59 rfl ?_
                  refine pw_getR r_1_couldBeSought_60 fs_1_8 (by decide) ?_
                  refine pw_iload r_1_couldBeSought_63 rfl ?_
                  refine pw_iald r_1_couldBeSought_64 sh34 (by omega) (by omega) ?_
                  refine pw_aload r_1_couldBeSought_65 rfl ?_
                  refine pw_getR r_1_couldBeSought_66 fs_1_11 (by decide) ?_
                  refine pw_iload r_1_couldBeSought_69 rfl ?_
                  refine pw_iald r_1_couldBeSought_71 sh37 (by omega) (by omega) ?_
                  refine pw_mmax r_1_couldBeSought_72 rfl (Nat.le_of_ble_eq_true rfl) (Nat.le_refl _) ?_
                  refine pw_iload r_1_couldBeSought_75 rfl ?_
                  refine pw_aload r_1_couldBeSought_76 rfl ?_
                  refine pw_getR r_1_couldBeSought_77 fs_1_12 (by decide) ?_
                  refine pw_iload r_1_couldBeSought_80 rfl ?_
                  refine pw_iald r_1_couldBeSought_82 sh38 (by omega) (by omega) ?_
                  refine pw_mmin r_1_couldBeSought_83 rfl (Nat.le_of_ble_eq_true rfl) (Nat.le_refl _) ?_
                  refine pw_icmp_gt r_1_couldBeSought_86 (fun h86 => ?_) (fun h86 => ?_)
                  · skip
                    refine pw_const r_1_couldBeSought_93 ?_
                    refine pw_istore (ls' := [some (vR 1 (0)), some (vI (p)), some (vI (s)), some (vI (z)), some (vI (t)), some (vI (0))]) r_1_couldBeSought_94 rfl rfl ?_
                    refine pw_iload r_1_couldBeSought_96 rfl ?_
                    refine pw_if_eq r_1_couldBeSought_98 (fun h98 => ?_) (fun h98 => ?_)
                    · skip
                      refine pw_iinc (b := 0) (ls' := [some (vR 1 (0)), some (vI (p)), some (vI (s)), some (vI (z)), some (vI ((t + 1))), some (vI (0))]) r_1_couldBeSought_119 rfl rfl (by omega) rfl ?_
                      refine pw_goto r_1_couldBeSought_122 ?_
                      refine pw_weakL (ls' := [some (vR 1 (0)), some (vI (p)), some (vI (s)), some (vI (z)), some (vI ((t + 1))), none]) (⟨rfl, ⟨rfl, ⟨rfl, ⟨rfl, ⟨rfl, trivial⟩⟩⟩⟩⟩) ?_
                      exact ih50 ((t + 1)) (z) (by omega) (hz) (all_s hm (by intro _ _; omega)) (by omega)
                    · skip
                      refine pw_aload r_1_couldBeSought_101 rfl ?_
                      refine pw_getR r_1_couldBeSought_102 fs_1_7 (by decide) ?_
                      refine pw_iload r_1_couldBeSought_105 rfl ?_
                      refine pw_iald r_1_couldBeSought_106 sh33 (by omega) (by omega) ?_
                      refine pw_aload r_1_couldBeSought_107 rfl ?_
                      refine pw_getR r_1_couldBeSought_108 fs_1_10 (by decide) ?_
                      refine pw_iload r_1_couldBeSought_111 rfl ?_
                      refine pw_iald r_1_couldBeSought_113 sh36 (by omega) (by omega) ?_
                      refine pw_icmp_eq r_1_couldBeSought_114 (fun h114 => ?_) (fun h114 => ?_)
                      · skip
                        refine pw_iinc (b := 0) (ls' := [some (vR 1 (0)), some (vI (p)), some (vI (s)), some (vI (z)), some (vI ((t + 1))), some (vI (0))]) r_1_couldBeSought_119 rfl rfl (by omega) rfl ?_
                        refine pw_goto r_1_couldBeSought_122 ?_
                        refine pw_weakL (ls' := [some (vR 1 (0)), some (vI (p)), some (vI (s)), some (vI (z)), some (vI ((t + 1))), none]) (⟨rfl, ⟨rfl, ⟨rfl, ⟨rfl, ⟨rfl, trivial⟩⟩⟩⟩⟩) ?_
                        exact ih50 ((t + 1)) (z) (by omega) (hz) (all_s hm (by intro _ _; omega)) (by omega)
                      · skip
                        refine pw_const r_1_couldBeSought_117 ?_
                        refine pw_zret r_1_couldBeSought_118 rfl (Or.inl rfl) (Nat.le_refl _) ⟨rfl, ?_⟩
                        exact pe hP (b2i_f (fun q => by have := q s (by omega) (by omega) t (by omega) (by omega); omega)).symm
                  · skip
                    refine pw_const r_1_couldBeSought_89 ?_
                    refine pw_goto r_1_couldBeSought_90 ?_
                    refine pw_istore (ls' := [some (vR 1 (0)), some (vI (p)), some (vI (s)), some (vI (z)), some (vI (t)), some (vI (1))]) r_1_couldBeSought_94 rfl rfl ?_
                    refine pw_iload r_1_couldBeSought_96 rfl ?_
                    refine pw_if_eq r_1_couldBeSought_98 (fun h98 => ?_) (fun h98 => ?_)
                    · skip
                      refine pw_iinc (b := 0) (ls' := [some (vR 1 (0)), some (vI (p)), some (vI (s)), some (vI (z)), some (vI ((t + 1))), some (vI (1))]) r_1_couldBeSought_119 rfl rfl (by omega) rfl ?_
                      refine pw_goto r_1_couldBeSought_122 ?_
                      refine pw_weakL (ls' := [some (vR 1 (0)), some (vI (p)), some (vI (s)), some (vI (z)), some (vI ((t + 1))), none]) (⟨rfl, ⟨rfl, ⟨rfl, ⟨rfl, ⟨rfl, trivial⟩⟩⟩⟩⟩) ?_
                      exact ih50 ((t + 1)) (z) (by omega) (hz) (all_s hm (by intro _ _; omega)) (by omega)
                    · skip
                      refine pw_aload r_1_couldBeSought_101 rfl ?_
                      refine pw_getR r_1_couldBeSought_102 fs_1_7 (by decide) ?_
                      refine pw_iload r_1_couldBeSought_105 rfl ?_
                      refine pw_iald r_1_couldBeSought_106 sh33 (by omega) (by omega) ?_
                      refine pw_aload r_1_couldBeSought_107 rfl ?_
                      refine pw_getR r_1_couldBeSought_108 fs_1_10 (by decide) ?_
                      refine pw_iload r_1_couldBeSought_111 rfl ?_
                      refine pw_iald r_1_couldBeSought_113 sh36 (by omega) (by omega) ?_
                      refine pw_icmp_eq r_1_couldBeSought_114 (fun h114 => ?_) (fun h114 => ?_)
                      · skip
                        refine pw_iinc (b := 0) (ls' := [some (vR 1 (0)), some (vI (p)), some (vI (s)), some (vI (z)), some (vI ((t + 1))), some (vI (1))]) r_1_couldBeSought_119 rfl rfl (by omega) rfl ?_
                        refine pw_goto r_1_couldBeSought_122 ?_
                        refine pw_weakL (ls' := [some (vR 1 (0)), some (vI (p)), some (vI (s)), some (vI (z)), some (vI ((t + 1))), none]) (⟨rfl, ⟨rfl, ⟨rfl, ⟨rfl, ⟨rfl, trivial⟩⟩⟩⟩⟩) ?_
                        exact ih50 ((t + 1)) (z) (by omega) (hz) (all_s hm (by intro _ _; omega)) (by omega)
                      · skip
                        refine pw_const r_1_couldBeSought_117 ?_
                        refine pw_zret r_1_couldBeSought_118 rfl (Or.inl rfl) (Nat.le_refl _) ⟨rfl, ?_⟩
                        exact pe hP (b2i_f (fun q => by have := q s (by omega) (by omega) t (by omega) (by omega); omega)).symm
            exact L50 _ (0) (gF G 1 (0) 2) (by omega) (by omega) (fun y a b => by omega) (Nat.lt_succ_self _)
        · skip
          refine pw_goto r_1_couldBeSought_20 ?_
          refine pw_iinc (b := 0) (ls' := [some (vR 1 (0)), some (vI (p)), some (vI ((s + 1))), none, none, none]) r_1_couldBeSought_125 rfl rfl (by omega) rfl ?_
          refine pw_goto r_1_couldBeSought_128 ?_
          exact ih2 ((s + 1)) (by omega) (all_s hn (by first | exact fun y a b e => absurd e (by omega) | exact fun y a b => hm y a (by omega))) (by omega)
  exact L2 _ (0) (by omega) (fun x a b => by omega) (Nat.lt_succ_self _)
set_option maxRecDepth 10000 in
theorem sp_X12_couldBe {l : Launch} {w : Wo} {d : Nat} {G : PH} {P : Option PV → PH → Prop} {p : Int} (hst : 0 ≤ (gF G 12 0 22) ∧ (gF G 12 0 22) ≤ 400) (hso : 0 ≤ (gF G 12 0 91) ∧ (gF G 12 0 91) ≤ 5) (hP : P (some (vI (b2i (∀ x, 0 ≤ x → x < (gF G 12 0 22) → ∀ y, 0 ≤ y → y < (gF G 12 0 91) → ((gA G 215 0 (x)) = p → ((gA G 217 0 (x)) ≤ (gA G 262 0 (y)) ∧ (gA G 217 0 (x)) ≤ (gF G 12 0 0) ∧ (gA G 261 0 (y)) ≤ (gA G 262 0 (y)) ∧ (gA G 261 0 (y)) ≤ (gF G 12 0 0) ∧ ((gA G 218 0 (x)) < 0 ∨ (0 ≤ (gA G 218 0 (x)) ∧ (gA G 217 0 (x)) ≤ (gA G 218 0 (x)) ∧ (gA G 261 0 (y)) ≤ (gA G 218 0 (x))))) → (gA G 216 0 (x)) = (gA G 260 0 (y))))))) G) : PW l w M_X12_couldBe (d + 0) 0 [some (vR 12 (0)), some (vI (p)), none, none, none, none, none, none, none] [] G P := by
  refine pw_const r_12_couldBe_0 ?_
  refine pw_istore (ls' := [some (vR 12 (0)), some (vI (p)), some (vI (1)), none, none, none, none, none, none]) r_12_couldBe_1 rfl rfl ?_
  refine pw_const r_12_couldBe_2 ?_
  refine pw_istore (ls' := [some (vR 12 (0)), some (vI (p)), some (vI (1)), some (vI (0)), none, none, none, none, none]) r_12_couldBe_3 rfl rfl ?_
  have L4 : ∀ (nF : Nat) (s v : Int), (hi : 0 ≤ s ∧ s ≤ (gF G 12 0 22)) → (hv : v = b2i (∀ x, 0 ≤ x → x < s → ∀ y, 0 ≤ y → y < (gF G 12 0 91) → ((gA G 215 0 (x)) = p → ((gA G 217 0 (x)) ≤ (gA G 262 0 (y)) ∧ (gA G 217 0 (x)) ≤ (gF G 12 0 0) ∧ (gA G 261 0 (y)) ≤ (gA G 262 0 (y)) ∧ (gA G 261 0 (y)) ≤ (gF G 12 0 0) ∧ ((gA G 218 0 (x)) < 0 ∨ (0 ≤ (gA G 218 0 (x)) ∧ (gA G 217 0 (x)) ≤ (gA G 218 0 (x)) ∧ (gA G 261 0 (y)) ≤ (gA G 218 0 (x))))) → (gA G 216 0 (x)) = (gA G 260 0 (y))))) → ((gF G 12 0 22) - s).toNat < nF → PW l w M_X12_couldBe (d + 0) 4 [some (vR 12 (0)), some (vI (p)), some (vI (v)), some (vI (s)), none, none, none, none, none] [] G P := by
    intro nF
    induction nF with
    | zero => intro _ _ _ _ hM; exact absurd hM (Nat.not_lt_zero _)
    | succ nF ih4 =>
      intro s v hi hv hM4
      refine pw_iload r_12_couldBe_4 rfl ?_
      refine pw_aload r_12_couldBe_5 rfl ?_
      refine pw_getI r_12_couldBe_6 fs_12_22 (by decide) ?_
      refine pw_icmp_ge r_12_couldBe_9 (fun h09 => ?_) (fun h09 => ?_)
      · skip
        refine pw_iload r_12_couldBe_191 rfl ?_
        refine pw_zret r_12_couldBe_192 rfl (by rw [hv]; exact b2i_01 _) (Nat.le_refl _) ⟨rfl, ?_⟩
        rw [show s = (gF G 12 0 22) by omega] at hv
        exact pe hP hv
      · skip
        refine pw_aload r_12_couldBe_12 rfl ?_
        refine pw_getR r_12_couldBe_13 fs_12_21 (by decide) ?_
        refine pw_iload r_12_couldBe_16 rfl ?_
        refine pw_iald r_12_couldBe_17 sh218 (by omega) (by omega) ?_
        refine pw_if_ge r_12_couldBe_18 (fun h18 => ?_) (fun h18 => ?_)
        · skip
          refine pw_aload r_12_couldBe_28 rfl ?_
          refine pw_getR r_12_couldBe_29 fs_12_21 (by decide) ?_
          refine pw_iload r_12_couldBe_32 rfl ?_
          refine pw_iald r_12_couldBe_33 sh218 (by omega) (by omega) ?_
          refine pw_istore (ls' := [some (vR 12 (0)), some (vI (p)), some (vI (v)), some (vI (s)), some (vI (gA G 218 (0) (s))), none, none, none, none]) r_12_couldBe_34 rfl rfl ?_
          refine pw_const r_12_couldBe_36 ?_
          refine pw_istore (ls' := [some (vR 12 (0)), some (vI (p)), some (vI (v)), some (vI (s)), some (vI (gA G 218 (0) (s))), some (vI (0)), none, none, none]) r_12_couldBe_37 rfl rfl ?_
          have L39 : ∀ (nF : Nat) (t z v : Int), (ht : 0 ≤ t ∧ t ≤ (gF G 12 0 91)) → (hz : ((gA G 218 0 (s)) < 0 ∧ z = (gF G 12 0 0)) ∨ (0 ≤ (gA G 218 0 (s)) ∧ z = (gA G 218 0 (s)))) → (hw : v = b2i ((∀ x, 0 ≤ x → x < s → ∀ y, 0 ≤ y → y < (gF G 12 0 91) → ((gA G 215 0 (x)) = p → ((gA G 217 0 (x)) ≤ (gA G 262 0 (y)) ∧ (gA G 217 0 (x)) ≤ (gF G 12 0 0) ∧ (gA G 261 0 (y)) ≤ (gA G 262 0 (y)) ∧ (gA G 261 0 (y)) ≤ (gF G 12 0 0) ∧ ((gA G 218 0 (x)) < 0 ∨ (0 ≤ (gA G 218 0 (x)) ∧ (gA G 217 0 (x)) ≤ (gA G 218 0 (x)) ∧ (gA G 261 0 (y)) ≤ (gA G 218 0 (x))))) → (gA G 216 0 (x)) = (gA G 260 0 (y)))) ∧ ∀ y, 0 ≤ y → y < t → ((gA G 215 0 (s)) = p → ((gA G 217 0 (s)) ≤ (gA G 262 0 (y)) ∧ (gA G 217 0 (s)) ≤ (gF G 12 0 0) ∧ (gA G 261 0 (y)) ≤ (gA G 262 0 (y)) ∧ (gA G 261 0 (y)) ≤ (gF G 12 0 0) ∧ ((gA G 218 0 (s)) < 0 ∨ (0 ≤ (gA G 218 0 (s)) ∧ (gA G 217 0 (s)) ≤ (gA G 218 0 (s)) ∧ (gA G 261 0 (y)) ≤ (gA G 218 0 (s))))) → (gA G 216 0 (s)) = (gA G 260 0 (y))))) → ((gF G 12 0 91) - t).toNat < nF → PW l w M_X12_couldBe (d + 0) 39 [some (vR 12 (0)), some (vI (p)), some (vI (v)), some (vI (s)), some (vI (z)), some (vI (t)), none, none, none] [] G P := by
            intro nF
            induction nF with
            | zero => intro _ _ _ _ _ _ hM; exact absurd hM (Nat.not_lt_zero _)
            | succ nF ih39 =>
              intro t z v ht hz hw hM39
              refine pw_iload r_12_couldBe_39 rfl ?_
              refine pw_aload r_12_couldBe_41 rfl ?_
              refine pw_getI r_12_couldBe_42 fs_12_91 (by decide) ?_
              refine pw_icmp_ge r_12_couldBe_45 (fun h45 => ?_) (fun h45 => ?_)
              · skip
                have hout : v = b2i (∀ x, 0 ≤ x → x < (s + 1) → ∀ y, 0 ≤ y → y < (gF G 12 0 91) → ((gA G 215 0 (x)) = p → ((gA G 217 0 (x)) ≤ (gA G 262 0 (y)) ∧ (gA G 217 0 (x)) ≤ (gF G 12 0 0) ∧ (gA G 261 0 (y)) ≤ (gA G 262 0 (y)) ∧ (gA G 261 0 (y)) ≤ (gF G 12 0 0) ∧ ((gA G 218 0 (x)) < 0 ∨ (0 ≤ (gA G 218 0 (x)) ∧ (gA G 217 0 (x)) ≤ (gA G 218 0 (x)) ∧ (gA G 261 0 (y)) ≤ (gA G 218 0 (x))))) → (gA G 216 0 (x)) = (gA G 260 0 (y)))) := hw.trans (b2i_congr (Iff.symm ((all_s_iff hi.1).trans (by rw [show t = (gF G 12 0 91) by omega]))))
                refine pw_iinc (b := 0) (ls' := [some (vR 12 (0)), some (vI (p)), some (vI (v)), some (vI ((s + 1))), some (vI (z)), some (vI (t)), none, none, none]) r_12_couldBe_185 rfl rfl (by omega) rfl ?_
                refine pw_goto r_12_couldBe_188 ?_
                refine pw_weakL (ls' := [some (vR 12 (0)), some (vI (p)), some (vI (v)), some (vI ((s + 1))), none, none, none, none, none]) (⟨rfl, ⟨rfl, ⟨rfl, ⟨rfl, trivial⟩⟩⟩⟩) ?_
                exact ih4 ((s + 1)) (v) (by omega) (hout) (by omega)
              · skip
                refine pw_aload r_12_couldBe_48 rfl ?_
                refine pw_getR r_12_couldBe_49 fs_12_18 (by decide) ?_
                refine pw_iload r_12_couldBe_52 rfl ?_
                refine pw_iald r_12_couldBe_53 sh215 (by omega) (by omega) ?_
                refine pw_iload r_12_couldBe_54 rfl ?_
                refine pw_icmp_ne r_12_couldBe_55 (fun h55 => ?_) (fun h55 => ?_)
                · skip
                  have hout : v = b2i (∀ x, 0 ≤ x → x < (s + 1) → ∀ y, 0 ≤ y → y < (gF G 12 0 91) → ((gA G 215 0 (x)) = p → ((gA G 217 0 (x)) ≤ (gA G 262 0 (y)) ∧ (gA G 217 0 (x)) ≤ (gF G 12 0 0) ∧ (gA G 261 0 (y)) ≤ (gA G 262 0 (y)) ∧ (gA G 261 0 (y)) ≤ (gF G 12 0 0) ∧ ((gA G 218 0 (x)) < 0 ∨ (0 ≤ (gA G 218 0 (x)) ∧ (gA G 217 0 (x)) ≤ (gA G 218 0 (x)) ∧ (gA G 261 0 (y)) ≤ (gA G 218 0 (x))))) → (gA G 216 0 (x)) = (gA G 260 0 (y)))) := hw.trans (b2i_congr (Iff.symm ((all_s_iff hi.1).trans ⟨fun q => ⟨q.1, fun y a b e => absurd e (by omega)⟩, fun q => ⟨q.1, fun y a b e => absurd e (by omega)⟩⟩)))
                  refine pw_iinc (b := 0) (ls' := [some (vR 12 (0)), some (vI (p)), some (vI (v)), some (vI ((s + 1))), some (vI (z)), some (vI (t)), none, none, none]) r_12_couldBe_185 rfl rfl (by omega) rfl ?_
                  refine pw_goto r_12_couldBe_188 ?_
                  refine pw_weakL (ls' := [some (vR 12 (0)), some (vI (p)), some (vI (v)), some (vI ((s + 1))), none, none, none, none, none]) (⟨rfl, ⟨rfl, ⟨rfl, ⟨rfl, trivial⟩⟩⟩⟩) ?_
                  exact ih4 ((s + 1)) (v) (by omega) (hout) (by omega)
                · skip
                  refine pw_aload r_12_couldBe_58 rfl ?_
                  refine pw_getR r_12_couldBe_59 fs_12_90 (by decide) ?_
                  refine pw_iload r_12_couldBe_62 rfl ?_
                  refine pw_iald r_12_couldBe_64 sh262 (by omega) (by omega) ?_
                  refine pw_aload r_12_couldBe_65 rfl ?_
                  refine pw_getI r_12_couldBe_66 fs_12_0 (by decide) ?_
                  refine pw_icmp_ge r_12_couldBe_69 (fun h69 => ?_) (fun h69 => ?_)
                  · skip
                    refine pw_aload r_12_couldBe_82 rfl ?_
                    refine pw_getI r_12_couldBe_83 fs_12_0 (by decide) ?_
                    refine pw_istore (ls' := [some (vR 12 (0)), some (vI (p)), some (vI (v)), some (vI (s)), some (vI (z)), some (vI (t)), some (vI (gF G 12 (0) 0)), none, none]) r_12_couldBe_86 rfl rfl ?_
                    refine pw_aload r_12_couldBe_88 rfl ?_
                    refine pw_getR r_12_couldBe_89 fs_12_20 (by decide) ?_
                    refine pw_iload r_12_couldBe_92 rfl ?_
                    refine pw_iald r_12_couldBe_93 sh217 (by omega) (by omega) ?_
                    refine pw_aload r_12_couldBe_94 rfl ?_
                    refine pw_getR r_12_couldBe_95 fs_12_89 (by decide) ?_
                    refine pw_iload r_12_couldBe_98 rfl ?_
                    refine pw_iald r_12_couldBe_100 sh261 (by omega) (by omega) ?_
                    refine pw_icmp_le r_12_couldBe_101 (fun h101 => ?_) (fun h101 => ?_)
                    · skip
                      refine pw_aload r_12_couldBe_113 rfl ?_
                      refine pw_getR r_12_couldBe_114 fs_12_89 (by decide) ?_
                      refine pw_iload r_12_couldBe_117 rfl ?_
                      refine pw_iald r_12_couldBe_119 sh261 (by omega) (by omega) ?_
                      refine pw_istore (ls' := [some (vR 12 (0)), some (vI (p)), some (vI (v)), some (vI (s)), some (vI (z)), some (vI (t)), some (vI (gF G 12 (0) 0)), some (vI (gA G 261 (0) (t))), none]) r_12_couldBe_120 rfl rfl ?_
                      refine pw_iload r_12_couldBe_122 rfl ?_
                      refine pw_iload r_12_couldBe_124 rfl ?_
                      refine pw_iload r_12_couldBe_126 rfl ?_
                      refine pw_icmp_ge r_12_couldBe_128 (fun h128 => ?_) (fun h128 => ?_)
                      · skip
                        refine pw_iload r_12_couldBe_136 rfl ?_
                        refine pw_icmp_gt r_12_couldBe_138 (fun h138 => ?_) (fun h138 => ?_)
                        · skip
                          refine pw_const r_12_couldBe_145 ?_
                          refine pw_istore (ls' := [some (vR 12 (0)), some (vI (p)), some (vI (v)), some (vI (s)), some (vI (z)), some (vI (t)), some (vI (gF G 12 (0) 0)), some (vI (gA G 261 (0) (t))), some (vI (0))]) r_12_couldBe_146 rfl rfl ?_
                          refine pw_iload r_12_couldBe_148 rfl ?_
                          refine pw_if_eq r_12_couldBe_149 (fun h149 => ?_) (fun h149 => ?_)
                          · skip
                            have h149n := b2i_eq0.mp (hw.symm.trans h149)
                            refine pw_const r_12_couldBe_177 ?_
                            refine pw_istore (ls' := [some (vR 12 (0)), some (vI (p)), some (vI (0)), some (vI (s)), some (vI (z)), some (vI (t)), some (vI (gF G 12 (0) 0)), some (vI (gA G 261 (0) (t))), some (vI (0))]) r_12_couldBe_178 rfl rfl ?_
                            refine pw_iinc (b := 0) (ls' := [some (vR 12 (0)), some (vI (p)), some (vI (0)), some (vI (s)), some (vI (z)), some (vI ((t + 1))), some (vI (gF G 12 (0) 0)), some (vI (gA G 261 (0) (t))), some (vI (0))]) r_12_couldBe_179 rfl rfl (by omega) rfl ?_
                            refine pw_goto r_12_couldBe_182 ?_
                            refine pw_weakL (ls' := [some (vR 12 (0)), some (vI (p)), some (vI (0)), some (vI (s)), some (vI (z)), some (vI ((t + 1))), none, none, none]) (⟨rfl, ⟨rfl, ⟨rfl, ⟨rfl, ⟨rfl, ⟨rfl, trivial⟩⟩⟩⟩⟩⟩) ?_
                            exact ih39 ((t + 1)) (z) (0) (by omega) (hz) (by first | exact (b2i_t ⟨hA.1, all_s hA.2 (by intro _ _; omega)⟩).symm | exact (b2i_f (fun q => h149n ⟨q.1, fun y a b => q.2 y a (by omega)⟩)).symm | exact (b2i_f (fun q => by have := q.2 t (by omega) (by omega); omega)).symm) (by omega)
                          · skip
                            have hv1 : v = 1 := by rcases b2i_01 (((∀ x, 0 ≤ x → x < s → ∀ y, 0 ≤ y → y < (gF G 12 0 91) → ((gA G 215 0 (x)) = p → ((gA G 217 0 (x)) ≤ (gA G 262 0 (y)) ∧ (gA G 217 0 (x)) ≤ (gF G 12 0 0) ∧ (gA G 261 0 (y)) ≤ (gA G 262 0 (y)) ∧ (gA G 261 0 (y)) ≤ (gF G 12 0 0) ∧ ((gA G 218 0 (x)) < 0 ∨ (0 ≤ (gA G 218 0 (x)) ∧ (gA G 217 0 (x)) ≤ (gA G 218 0 (x)) ∧ (gA G 261 0 (y)) ≤ (gA G 218 0 (x))))) → (gA G 216 0 (x)) = (gA G 260 0 (y)))) ∧ ∀ y, 0 ≤ y → y < t → ((gA G 215 0 (s)) = p → ((gA G 217 0 (s)) ≤ (gA G 262 0 (y)) ∧ (gA G 217 0 (s)) ≤ (gF G 12 0 0) ∧ (gA G 261 0 (y)) ≤ (gA G 262 0 (y)) ∧ (gA G 261 0 (y)) ≤ (gF G 12 0 0) ∧ ((gA G 218 0 (s)) < 0 ∨ (0 ≤ (gA G 218 0 (s)) ∧ (gA G 217 0 (s)) ≤ (gA G 218 0 (s)) ∧ (gA G 261 0 (y)) ≤ (gA G 218 0 (s))))) → (gA G 216 0 (s)) = (gA G 260 0 (y))))) with q | q; exact absurd (hw.trans q) h149; exact hw.trans q
                            have hA := b2i_eq1.mp (hw.symm.trans hv1)
                            refine pw_iload r_12_couldBe_152 rfl ?_
                            refine pw_if_eq r_12_couldBe_154 (fun h154 => ?_) (fun h154 => ?_)
                            · skip
                              refine pw_const r_12_couldBe_173 ?_
                              refine pw_goto r_12_couldBe_174 ?_
                              refine pw_istore (ls' := [some (vR 12 (0)), some (vI (p)), some (vI (1)), some (vI (s)), some (vI (z)), some (vI (t)), some (vI (gF G 12 (0) 0)), some (vI (gA G 261 (0) (t))), some (vI (0))]) r_12_couldBe_178 rfl rfl ?_
                              refine pw_iinc (b := 0) (ls' := [some (vR 12 (0)), some (vI (p)), some (vI (1)), some (vI (s)), some (vI (z)), some (vI ((t + 1))), some (vI (gF G 12 (0) 0)), some (vI (gA G 261 (0) (t))), some (vI (0))]) r_12_couldBe_179 rfl rfl (by omega) rfl ?_
                              refine pw_goto r_12_couldBe_182 ?_
                              refine pw_weakL (ls' := [some (vR 12 (0)), some (vI (p)), some (vI (1)), some (vI (s)), some (vI (z)), some (vI ((t + 1))), none, none, none]) (⟨rfl, ⟨rfl, ⟨rfl, ⟨rfl, ⟨rfl, ⟨rfl, trivial⟩⟩⟩⟩⟩⟩) ?_
                              exact ih39 ((t + 1)) (z) (1) (by omega) (hz) (by first | exact (b2i_t ⟨hA.1, all_s hA.2 (by intro _ _; omega)⟩).symm | exact (b2i_f (fun q => h149n ⟨q.1, fun y a b => q.2 y a (by omega)⟩)).symm | exact (b2i_f (fun q => by have := q.2 t (by omega) (by omega); omega)).symm) (by omega)
                            · skip
                              refine pw_aload r_12_couldBe_157 rfl ?_
                              refine pw_getR r_12_couldBe_158 fs_12_19 (by decide) ?_
                              refine pw_iload r_12_couldBe_161 rfl ?_
                              refine pw_iald r_12_couldBe_162 sh216 (by omega) (by omega) ?_
                              refine pw_aload r_12_couldBe_163 rfl ?_
                              refine pw_getR r_12_couldBe_164 fs_12_88 (by decide) ?_
                              refine pw_iload r_12_couldBe_167 rfl ?_
                              refine pw_iald r_12_couldBe_169 sh260 (by omega) (by omega) ?_
                              refine pw_icmp_ne r_12_couldBe_170 (fun h170 => ?_) (fun h170 => ?_)
                              · skip
                                refine pw_const r_12_couldBe_177 ?_
                                refine pw_istore (ls' := [some (vR 12 (0)), some (vI (p)), some (vI (0)), some (vI (s)), some (vI (z)), some (vI (t)), some (vI (gF G 12 (0) 0)), some (vI (gA G 261 (0) (t))), some (vI (0))]) r_12_couldBe_178 rfl rfl ?_
                                refine pw_iinc (b := 0) (ls' := [some (vR 12 (0)), some (vI (p)), some (vI (0)), some (vI (s)), some (vI (z)), some (vI ((t + 1))), some (vI (gF G 12 (0) 0)), some (vI (gA G 261 (0) (t))), some (vI (0))]) r_12_couldBe_179 rfl rfl (by omega) rfl ?_
                                refine pw_goto r_12_couldBe_182 ?_
                                refine pw_weakL (ls' := [some (vR 12 (0)), some (vI (p)), some (vI (0)), some (vI (s)), some (vI (z)), some (vI ((t + 1))), none, none, none]) (⟨rfl, ⟨rfl, ⟨rfl, ⟨rfl, ⟨rfl, ⟨rfl, trivial⟩⟩⟩⟩⟩⟩) ?_
                                exact ih39 ((t + 1)) (z) (0) (by omega) (hz) (by first | exact (b2i_t ⟨hA.1, all_s hA.2 (by intro _ _; omega)⟩).symm | exact (b2i_f (fun q => h149n ⟨q.1, fun y a b => q.2 y a (by omega)⟩)).symm | exact (b2i_f (fun q => by have := q.2 t (by omega) (by omega); omega)).symm) (by omega)
                              · skip
                                refine pw_const r_12_couldBe_173 ?_
                                refine pw_goto r_12_couldBe_174 ?_
                                refine pw_istore (ls' := [some (vR 12 (0)), some (vI (p)), some (vI (1)), some (vI (s)), some (vI (z)), some (vI (t)), some (vI (gF G 12 (0) 0)), some (vI (gA G 261 (0) (t))), some (vI (0))]) r_12_couldBe_178 rfl rfl ?_
                                refine pw_iinc (b := 0) (ls' := [some (vR 12 (0)), some (vI (p)), some (vI (1)), some (vI (s)), some (vI (z)), some (vI ((t + 1))), some (vI (gF G 12 (0) 0)), some (vI (gA G 261 (0) (t))), some (vI (0))]) r_12_couldBe_179 rfl rfl (by omega) rfl ?_
                                refine pw_goto r_12_couldBe_182 ?_
                                refine pw_weakL (ls' := [some (vR 12 (0)), some (vI (p)), some (vI (1)), some (vI (s)), some (vI (z)), some (vI ((t + 1))), none, none, none]) (⟨rfl, ⟨rfl, ⟨rfl, ⟨rfl, ⟨rfl, ⟨rfl, trivial⟩⟩⟩⟩⟩⟩) ?_
                                exact ih39 ((t + 1)) (z) (1) (by omega) (hz) (by first | exact (b2i_t ⟨hA.1, all_s hA.2 (by intro _ _; omega)⟩).symm | exact (b2i_f (fun q => h149n ⟨q.1, fun y a b => q.2 y a (by omega)⟩)).symm | exact (b2i_f (fun q => by have := q.2 t (by omega) (by omega); omega)).symm) (by omega)
                        · skip
                          refine pw_const r_12_couldBe_141 ?_
                          refine pw_goto r_12_couldBe_142 ?_
                          refine pw_istore (ls' := [some (vR 12 (0)), some (vI (p)), some (vI (v)), some (vI (s)), some (vI (z)), some (vI (t)), some (vI (gF G 12 (0) 0)), some (vI (gA G 261 (0) (t))), some (vI (1))]) r_12_couldBe_146 rfl rfl ?_
                          refine pw_iload r_12_couldBe_148 rfl ?_
                          refine pw_if_eq r_12_couldBe_149 (fun h149 => ?_) (fun h149 => ?_)
                          · skip
                            have h149n := b2i_eq0.mp (hw.symm.trans h149)
                            refine pw_const r_12_couldBe_177 ?_
                            refine pw_istore (ls' := [some (vR 12 (0)), some (vI (p)), some (vI (0)), some (vI (s)), some (vI (z)), some (vI (t)), some (vI (gF G 12 (0) 0)), some (vI (gA G 261 (0) (t))), some (vI (1))]) r_12_couldBe_178 rfl rfl ?_
                            refine pw_iinc (b := 0) (ls' := [some (vR 12 (0)), some (vI (p)), some (vI (0)), some (vI (s)), some (vI (z)), some (vI ((t + 1))), some (vI (gF G 12 (0) 0)), some (vI (gA G 261 (0) (t))), some (vI (1))]) r_12_couldBe_179 rfl rfl (by omega) rfl ?_
                            refine pw_goto r_12_couldBe_182 ?_
                            refine pw_weakL (ls' := [some (vR 12 (0)), some (vI (p)), some (vI (0)), some (vI (s)), some (vI (z)), some (vI ((t + 1))), none, none, none]) (⟨rfl, ⟨rfl, ⟨rfl, ⟨rfl, ⟨rfl, ⟨rfl, trivial⟩⟩⟩⟩⟩⟩) ?_
                            exact ih39 ((t + 1)) (z) (0) (by omega) (hz) (by first | exact (b2i_t ⟨hA.1, all_s hA.2 (by intro _ _; omega)⟩).symm | exact (b2i_f (fun q => h149n ⟨q.1, fun y a b => q.2 y a (by omega)⟩)).symm | exact (b2i_f (fun q => by have := q.2 t (by omega) (by omega); omega)).symm) (by omega)
                          · skip
                            have hv1 : v = 1 := by rcases b2i_01 (((∀ x, 0 ≤ x → x < s → ∀ y, 0 ≤ y → y < (gF G 12 0 91) → ((gA G 215 0 (x)) = p → ((gA G 217 0 (x)) ≤ (gA G 262 0 (y)) ∧ (gA G 217 0 (x)) ≤ (gF G 12 0 0) ∧ (gA G 261 0 (y)) ≤ (gA G 262 0 (y)) ∧ (gA G 261 0 (y)) ≤ (gF G 12 0 0) ∧ ((gA G 218 0 (x)) < 0 ∨ (0 ≤ (gA G 218 0 (x)) ∧ (gA G 217 0 (x)) ≤ (gA G 218 0 (x)) ∧ (gA G 261 0 (y)) ≤ (gA G 218 0 (x))))) → (gA G 216 0 (x)) = (gA G 260 0 (y)))) ∧ ∀ y, 0 ≤ y → y < t → ((gA G 215 0 (s)) = p → ((gA G 217 0 (s)) ≤ (gA G 262 0 (y)) ∧ (gA G 217 0 (s)) ≤ (gF G 12 0 0) ∧ (gA G 261 0 (y)) ≤ (gA G 262 0 (y)) ∧ (gA G 261 0 (y)) ≤ (gF G 12 0 0) ∧ ((gA G 218 0 (s)) < 0 ∨ (0 ≤ (gA G 218 0 (s)) ∧ (gA G 217 0 (s)) ≤ (gA G 218 0 (s)) ∧ (gA G 261 0 (y)) ≤ (gA G 218 0 (s))))) → (gA G 216 0 (s)) = (gA G 260 0 (y))))) with q | q; exact absurd (hw.trans q) h149; exact hw.trans q
                            have hA := b2i_eq1.mp (hw.symm.trans hv1)
                            refine pw_iload r_12_couldBe_152 rfl ?_
                            refine pw_if_eq r_12_couldBe_154 (fun h154 => ?_) (fun h154 => ?_)
                            · skip
                              refine pw_const r_12_couldBe_173 ?_
                              refine pw_goto r_12_couldBe_174 ?_
                              refine pw_istore (ls' := [some (vR 12 (0)), some (vI (p)), some (vI (1)), some (vI (s)), some (vI (z)), some (vI (t)), some (vI (gF G 12 (0) 0)), some (vI (gA G 261 (0) (t))), some (vI (1))]) r_12_couldBe_178 rfl rfl ?_
                              refine pw_iinc (b := 0) (ls' := [some (vR 12 (0)), some (vI (p)), some (vI (1)), some (vI (s)), some (vI (z)), some (vI ((t + 1))), some (vI (gF G 12 (0) 0)), some (vI (gA G 261 (0) (t))), some (vI (1))]) r_12_couldBe_179 rfl rfl (by omega) rfl ?_
                              refine pw_goto r_12_couldBe_182 ?_
                              refine pw_weakL (ls' := [some (vR 12 (0)), some (vI (p)), some (vI (1)), some (vI (s)), some (vI (z)), some (vI ((t + 1))), none, none, none]) (⟨rfl, ⟨rfl, ⟨rfl, ⟨rfl, ⟨rfl, ⟨rfl, trivial⟩⟩⟩⟩⟩⟩) ?_
                              exact ih39 ((t + 1)) (z) (1) (by omega) (hz) (by first | exact (b2i_t ⟨hA.1, all_s hA.2 (by intro _ _; omega)⟩).symm | exact (b2i_f (fun q => h149n ⟨q.1, fun y a b => q.2 y a (by omega)⟩)).symm | exact (b2i_f (fun q => by have := q.2 t (by omega) (by omega); omega)).symm) (by omega)
                            · skip
                              refine pw_aload r_12_couldBe_157 rfl ?_
                              refine pw_getR r_12_couldBe_158 fs_12_19 (by decide) ?_
                              refine pw_iload r_12_couldBe_161 rfl ?_
                              refine pw_iald r_12_couldBe_162 sh216 (by omega) (by omega) ?_
                              refine pw_aload r_12_couldBe_163 rfl ?_
                              refine pw_getR r_12_couldBe_164 fs_12_88 (by decide) ?_
                              refine pw_iload r_12_couldBe_167 rfl ?_
                              refine pw_iald r_12_couldBe_169 sh260 (by omega) (by omega) ?_
                              refine pw_icmp_ne r_12_couldBe_170 (fun h170 => ?_) (fun h170 => ?_)
                              · skip
                                refine pw_const r_12_couldBe_177 ?_
                                refine pw_istore (ls' := [some (vR 12 (0)), some (vI (p)), some (vI (0)), some (vI (s)), some (vI (z)), some (vI (t)), some (vI (gF G 12 (0) 0)), some (vI (gA G 261 (0) (t))), some (vI (1))]) r_12_couldBe_178 rfl rfl ?_
                                refine pw_iinc (b := 0) (ls' := [some (vR 12 (0)), some (vI (p)), some (vI (0)), some (vI (s)), some (vI (z)), some (vI ((t + 1))), some (vI (gF G 12 (0) 0)), some (vI (gA G 261 (0) (t))), some (vI (1))]) r_12_couldBe_179 rfl rfl (by omega) rfl ?_
                                refine pw_goto r_12_couldBe_182 ?_
                                refine pw_weakL (ls' := [some (vR 12 (0)), some (vI (p)), some (vI (0)), some (vI (s)), some (vI (z)), some (vI ((t + 1))), none, none, none]) (⟨rfl, ⟨rfl, ⟨rfl, ⟨rfl, ⟨rfl, ⟨rfl, trivial⟩⟩⟩⟩⟩⟩) ?_
                                exact ih39 ((t + 1)) (z) (0) (by omega) (hz) (by first | exact (b2i_t ⟨hA.1, all_s hA.2 (by intro _ _; omega)⟩).symm | exact (b2i_f (fun q => h149n ⟨q.1, fun y a b => q.2 y a (by omega)⟩)).symm | exact (b2i_f (fun q => by have := q.2 t (by omega) (by omega); omega)).symm) (by omega)
                              · skip
                                refine pw_const r_12_couldBe_173 ?_
                                refine pw_goto r_12_couldBe_174 ?_
                                refine pw_istore (ls' := [some (vR 12 (0)), some (vI (p)), some (vI (1)), some (vI (s)), some (vI (z)), some (vI (t)), some (vI (gF G 12 (0) 0)), some (vI (gA G 261 (0) (t))), some (vI (1))]) r_12_couldBe_178 rfl rfl ?_
                                refine pw_iinc (b := 0) (ls' := [some (vR 12 (0)), some (vI (p)), some (vI (1)), some (vI (s)), some (vI (z)), some (vI ((t + 1))), some (vI (gF G 12 (0) 0)), some (vI (gA G 261 (0) (t))), some (vI (1))]) r_12_couldBe_179 rfl rfl (by omega) rfl ?_
                                refine pw_goto r_12_couldBe_182 ?_
                                refine pw_weakL (ls' := [some (vR 12 (0)), some (vI (p)), some (vI (1)), some (vI (s)), some (vI (z)), some (vI ((t + 1))), none, none, none]) (⟨rfl, ⟨rfl, ⟨rfl, ⟨rfl, ⟨rfl, ⟨rfl, trivial⟩⟩⟩⟩⟩⟩) ?_
                                exact ih39 ((t + 1)) (z) (1) (by omega) (hz) (by first | exact (b2i_t ⟨hA.1, all_s hA.2 (by intro _ _; omega)⟩).symm | exact (b2i_f (fun q => h149n ⟨q.1, fun y a b => q.2 y a (by omega)⟩)).symm | exact (b2i_f (fun q => by have := q.2 t (by omega) (by omega); omega)).symm) (by omega)
                      · skip
                        refine pw_iload r_12_couldBe_131 rfl ?_
                        refine pw_goto r_12_couldBe_133 ?_
                        refine pw_icmp_gt r_12_couldBe_138 (fun h138 => ?_) (fun h138 => ?_)
                        · skip
                          refine pw_const r_12_couldBe_145 ?_
                          refine pw_istore (ls' := [some (vR 12 (0)), some (vI (p)), some (vI (v)), some (vI (s)), some (vI (z)), some (vI (t)), some (vI (gF G 12 (0) 0)), some (vI (gA G 261 (0) (t))), some (vI (0))]) r_12_couldBe_146 rfl rfl ?_
                          refine pw_iload r_12_couldBe_148 rfl ?_
                          refine pw_if_eq r_12_couldBe_149 (fun h149 => ?_) (fun h149 => ?_)
                          · skip
                            have h149n := b2i_eq0.mp (hw.symm.trans h149)
                            refine pw_const r_12_couldBe_177 ?_
                            refine pw_istore (ls' := [some (vR 12 (0)), some (vI (p)), some (vI (0)), some (vI (s)), some (vI (z)), some (vI (t)), some (vI (gF G 12 (0) 0)), some (vI (gA G 261 (0) (t))), some (vI (0))]) r_12_couldBe_178 rfl rfl ?_
                            refine pw_iinc (b := 0) (ls' := [some (vR 12 (0)), some (vI (p)), some (vI (0)), some (vI (s)), some (vI (z)), some (vI ((t + 1))), some (vI (gF G 12 (0) 0)), some (vI (gA G 261 (0) (t))), some (vI (0))]) r_12_couldBe_179 rfl rfl (by omega) rfl ?_
                            refine pw_goto r_12_couldBe_182 ?_
                            refine pw_weakL (ls' := [some (vR 12 (0)), some (vI (p)), some (vI (0)), some (vI (s)), some (vI (z)), some (vI ((t + 1))), none, none, none]) (⟨rfl, ⟨rfl, ⟨rfl, ⟨rfl, ⟨rfl, ⟨rfl, trivial⟩⟩⟩⟩⟩⟩) ?_
                            exact ih39 ((t + 1)) (z) (0) (by omega) (hz) (by first | exact (b2i_t ⟨hA.1, all_s hA.2 (by intro _ _; omega)⟩).symm | exact (b2i_f (fun q => h149n ⟨q.1, fun y a b => q.2 y a (by omega)⟩)).symm | exact (b2i_f (fun q => by have := q.2 t (by omega) (by omega); omega)).symm) (by omega)
                          · skip
                            have hv1 : v = 1 := by rcases b2i_01 (((∀ x, 0 ≤ x → x < s → ∀ y, 0 ≤ y → y < (gF G 12 0 91) → ((gA G 215 0 (x)) = p → ((gA G 217 0 (x)) ≤ (gA G 262 0 (y)) ∧ (gA G 217 0 (x)) ≤ (gF G 12 0 0) ∧ (gA G 261 0 (y)) ≤ (gA G 262 0 (y)) ∧ (gA G 261 0 (y)) ≤ (gF G 12 0 0) ∧ ((gA G 218 0 (x)) < 0 ∨ (0 ≤ (gA G 218 0 (x)) ∧ (gA G 217 0 (x)) ≤ (gA G 218 0 (x)) ∧ (gA G 261 0 (y)) ≤ (gA G 218 0 (x))))) → (gA G 216 0 (x)) = (gA G 260 0 (y)))) ∧ ∀ y, 0 ≤ y → y < t → ((gA G 215 0 (s)) = p → ((gA G 217 0 (s)) ≤ (gA G 262 0 (y)) ∧ (gA G 217 0 (s)) ≤ (gF G 12 0 0) ∧ (gA G 261 0 (y)) ≤ (gA G 262 0 (y)) ∧ (gA G 261 0 (y)) ≤ (gF G 12 0 0) ∧ ((gA G 218 0 (s)) < 0 ∨ (0 ≤ (gA G 218 0 (s)) ∧ (gA G 217 0 (s)) ≤ (gA G 218 0 (s)) ∧ (gA G 261 0 (y)) ≤ (gA G 218 0 (s))))) → (gA G 216 0 (s)) = (gA G 260 0 (y))))) with q | q; exact absurd (hw.trans q) h149; exact hw.trans q
                            have hA := b2i_eq1.mp (hw.symm.trans hv1)
                            refine pw_iload r_12_couldBe_152 rfl ?_
                            refine pw_if_eq r_12_couldBe_154 (fun h154 => ?_) (fun h154 => ?_)
                            · skip
                              refine pw_const r_12_couldBe_173 ?_
                              refine pw_goto r_12_couldBe_174 ?_
                              refine pw_istore (ls' := [some (vR 12 (0)), some (vI (p)), some (vI (1)), some (vI (s)), some (vI (z)), some (vI (t)), some (vI (gF G 12 (0) 0)), some (vI (gA G 261 (0) (t))), some (vI (0))]) r_12_couldBe_178 rfl rfl ?_
                              refine pw_iinc (b := 0) (ls' := [some (vR 12 (0)), some (vI (p)), some (vI (1)), some (vI (s)), some (vI (z)), some (vI ((t + 1))), some (vI (gF G 12 (0) 0)), some (vI (gA G 261 (0) (t))), some (vI (0))]) r_12_couldBe_179 rfl rfl (by omega) rfl ?_
                              refine pw_goto r_12_couldBe_182 ?_
                              refine pw_weakL (ls' := [some (vR 12 (0)), some (vI (p)), some (vI (1)), some (vI (s)), some (vI (z)), some (vI ((t + 1))), none, none, none]) (⟨rfl, ⟨rfl, ⟨rfl, ⟨rfl, ⟨rfl, ⟨rfl, trivial⟩⟩⟩⟩⟩⟩) ?_
                              exact ih39 ((t + 1)) (z) (1) (by omega) (hz) (by first | exact (b2i_t ⟨hA.1, all_s hA.2 (by intro _ _; omega)⟩).symm | exact (b2i_f (fun q => h149n ⟨q.1, fun y a b => q.2 y a (by omega)⟩)).symm | exact (b2i_f (fun q => by have := q.2 t (by omega) (by omega); omega)).symm) (by omega)
                            · skip
                              refine pw_aload r_12_couldBe_157 rfl ?_
                              refine pw_getR r_12_couldBe_158 fs_12_19 (by decide) ?_
                              refine pw_iload r_12_couldBe_161 rfl ?_
                              refine pw_iald r_12_couldBe_162 sh216 (by omega) (by omega) ?_
                              refine pw_aload r_12_couldBe_163 rfl ?_
                              refine pw_getR r_12_couldBe_164 fs_12_88 (by decide) ?_
                              refine pw_iload r_12_couldBe_167 rfl ?_
                              refine pw_iald r_12_couldBe_169 sh260 (by omega) (by omega) ?_
                              refine pw_icmp_ne r_12_couldBe_170 (fun h170 => ?_) (fun h170 => ?_)
                              · skip
                                refine pw_const r_12_couldBe_177 ?_
                                refine pw_istore (ls' := [some (vR 12 (0)), some (vI (p)), some (vI (0)), some (vI (s)), some (vI (z)), some (vI (t)), some (vI (gF G 12 (0) 0)), some (vI (gA G 261 (0) (t))), some (vI (0))]) r_12_couldBe_178 rfl rfl ?_
                                refine pw_iinc (b := 0) (ls' := [some (vR 12 (0)), some (vI (p)), some (vI (0)), some (vI (s)), some (vI (z)), some (vI ((t + 1))), some (vI (gF G 12 (0) 0)), some (vI (gA G 261 (0) (t))), some (vI (0))]) r_12_couldBe_179 rfl rfl (by omega) rfl ?_
                                refine pw_goto r_12_couldBe_182 ?_
                                refine pw_weakL (ls' := [some (vR 12 (0)), some (vI (p)), some (vI (0)), some (vI (s)), some (vI (z)), some (vI ((t + 1))), none, none, none]) (⟨rfl, ⟨rfl, ⟨rfl, ⟨rfl, ⟨rfl, ⟨rfl, trivial⟩⟩⟩⟩⟩⟩) ?_
                                exact ih39 ((t + 1)) (z) (0) (by omega) (hz) (by first | exact (b2i_t ⟨hA.1, all_s hA.2 (by intro _ _; omega)⟩).symm | exact (b2i_f (fun q => h149n ⟨q.1, fun y a b => q.2 y a (by omega)⟩)).symm | exact (b2i_f (fun q => by have := q.2 t (by omega) (by omega); omega)).symm) (by omega)
                              · skip
                                refine pw_const r_12_couldBe_173 ?_
                                refine pw_goto r_12_couldBe_174 ?_
                                refine pw_istore (ls' := [some (vR 12 (0)), some (vI (p)), some (vI (1)), some (vI (s)), some (vI (z)), some (vI (t)), some (vI (gF G 12 (0) 0)), some (vI (gA G 261 (0) (t))), some (vI (0))]) r_12_couldBe_178 rfl rfl ?_
                                refine pw_iinc (b := 0) (ls' := [some (vR 12 (0)), some (vI (p)), some (vI (1)), some (vI (s)), some (vI (z)), some (vI ((t + 1))), some (vI (gF G 12 (0) 0)), some (vI (gA G 261 (0) (t))), some (vI (0))]) r_12_couldBe_179 rfl rfl (by omega) rfl ?_
                                refine pw_goto r_12_couldBe_182 ?_
                                refine pw_weakL (ls' := [some (vR 12 (0)), some (vI (p)), some (vI (1)), some (vI (s)), some (vI (z)), some (vI ((t + 1))), none, none, none]) (⟨rfl, ⟨rfl, ⟨rfl, ⟨rfl, ⟨rfl, ⟨rfl, trivial⟩⟩⟩⟩⟩⟩) ?_
                                exact ih39 ((t + 1)) (z) (1) (by omega) (hz) (by first | exact (b2i_t ⟨hA.1, all_s hA.2 (by intro _ _; omega)⟩).symm | exact (b2i_f (fun q => h149n ⟨q.1, fun y a b => q.2 y a (by omega)⟩)).symm | exact (b2i_f (fun q => by have := q.2 t (by omega) (by omega); omega)).symm) (by omega)
                        · skip
                          refine pw_const r_12_couldBe_141 ?_
                          refine pw_goto r_12_couldBe_142 ?_
                          refine pw_istore (ls' := [some (vR 12 (0)), some (vI (p)), some (vI (v)), some (vI (s)), some (vI (z)), some (vI (t)), some (vI (gF G 12 (0) 0)), some (vI (gA G 261 (0) (t))), some (vI (1))]) r_12_couldBe_146 rfl rfl ?_
                          refine pw_iload r_12_couldBe_148 rfl ?_
                          refine pw_if_eq r_12_couldBe_149 (fun h149 => ?_) (fun h149 => ?_)
                          · skip
                            have h149n := b2i_eq0.mp (hw.symm.trans h149)
                            refine pw_const r_12_couldBe_177 ?_
                            refine pw_istore (ls' := [some (vR 12 (0)), some (vI (p)), some (vI (0)), some (vI (s)), some (vI (z)), some (vI (t)), some (vI (gF G 12 (0) 0)), some (vI (gA G 261 (0) (t))), some (vI (1))]) r_12_couldBe_178 rfl rfl ?_
                            refine pw_iinc (b := 0) (ls' := [some (vR 12 (0)), some (vI (p)), some (vI (0)), some (vI (s)), some (vI (z)), some (vI ((t + 1))), some (vI (gF G 12 (0) 0)), some (vI (gA G 261 (0) (t))), some (vI (1))]) r_12_couldBe_179 rfl rfl (by omega) rfl ?_
                            refine pw_goto r_12_couldBe_182 ?_
                            refine pw_weakL (ls' := [some (vR 12 (0)), some (vI (p)), some (vI (0)), some (vI (s)), some (vI (z)), some (vI ((t + 1))), none, none, none]) (⟨rfl, ⟨rfl, ⟨rfl, ⟨rfl, ⟨rfl, ⟨rfl, trivial⟩⟩⟩⟩⟩⟩) ?_
                            exact ih39 ((t + 1)) (z) (0) (by omega) (hz) (by first | exact (b2i_t ⟨hA.1, all_s hA.2 (by intro _ _; omega)⟩).symm | exact (b2i_f (fun q => h149n ⟨q.1, fun y a b => q.2 y a (by omega)⟩)).symm | exact (b2i_f (fun q => by have := q.2 t (by omega) (by omega); omega)).symm) (by omega)
                          · skip
                            have hv1 : v = 1 := by rcases b2i_01 (((∀ x, 0 ≤ x → x < s → ∀ y, 0 ≤ y → y < (gF G 12 0 91) → ((gA G 215 0 (x)) = p → ((gA G 217 0 (x)) ≤ (gA G 262 0 (y)) ∧ (gA G 217 0 (x)) ≤ (gF G 12 0 0) ∧ (gA G 261 0 (y)) ≤ (gA G 262 0 (y)) ∧ (gA G 261 0 (y)) ≤ (gF G 12 0 0) ∧ ((gA G 218 0 (x)) < 0 ∨ (0 ≤ (gA G 218 0 (x)) ∧ (gA G 217 0 (x)) ≤ (gA G 218 0 (x)) ∧ (gA G 261 0 (y)) ≤ (gA G 218 0 (x))))) → (gA G 216 0 (x)) = (gA G 260 0 (y)))) ∧ ∀ y, 0 ≤ y → y < t → ((gA G 215 0 (s)) = p → ((gA G 217 0 (s)) ≤ (gA G 262 0 (y)) ∧ (gA G 217 0 (s)) ≤ (gF G 12 0 0) ∧ (gA G 261 0 (y)) ≤ (gA G 262 0 (y)) ∧ (gA G 261 0 (y)) ≤ (gF G 12 0 0) ∧ ((gA G 218 0 (s)) < 0 ∨ (0 ≤ (gA G 218 0 (s)) ∧ (gA G 217 0 (s)) ≤ (gA G 218 0 (s)) ∧ (gA G 261 0 (y)) ≤ (gA G 218 0 (s))))) → (gA G 216 0 (s)) = (gA G 260 0 (y))))) with q | q; exact absurd (hw.trans q) h149; exact hw.trans q
                            have hA := b2i_eq1.mp (hw.symm.trans hv1)
                            refine pw_iload r_12_couldBe_152 rfl ?_
                            refine pw_if_eq r_12_couldBe_154 (fun h154 => ?_) (fun h154 => ?_)
                            · skip
                              refine pw_const r_12_couldBe_173 ?_
                              refine pw_goto r_12_couldBe_174 ?_
                              refine pw_istore (ls' := [some (vR 12 (0)), some (vI (p)), some (vI (1)), some (vI (s)), some (vI (z)), some (vI (t)), some (vI (gF G 12 (0) 0)), some (vI (gA G 261 (0) (t))), some (vI (1))]) r_12_couldBe_178 rfl rfl ?_
                              refine pw_iinc (b := 0) (ls' := [some (vR 12 (0)), some (vI (p)), some (vI (1)), some (vI (s)), some (vI (z)), some (vI ((t + 1))), some (vI (gF G 12 (0) 0)), some (vI (gA G 261 (0) (t))), some (vI (1))]) r_12_couldBe_179 rfl rfl (by omega) rfl ?_
                              refine pw_goto r_12_couldBe_182 ?_
                              refine pw_weakL (ls' := [some (vR 12 (0)), some (vI (p)), some (vI (1)), some (vI (s)), some (vI (z)), some (vI ((t + 1))), none, none, none]) (⟨rfl, ⟨rfl, ⟨rfl, ⟨rfl, ⟨rfl, ⟨rfl, trivial⟩⟩⟩⟩⟩⟩) ?_
                              exact ih39 ((t + 1)) (z) (1) (by omega) (hz) (by first | exact (b2i_t ⟨hA.1, all_s hA.2 (by intro _ _; omega)⟩).symm | exact (b2i_f (fun q => h149n ⟨q.1, fun y a b => q.2 y a (by omega)⟩)).symm | exact (b2i_f (fun q => by have := q.2 t (by omega) (by omega); omega)).symm) (by omega)
                            · skip
                              refine pw_aload r_12_couldBe_157 rfl ?_
                              refine pw_getR r_12_couldBe_158 fs_12_19 (by decide) ?_
                              refine pw_iload r_12_couldBe_161 rfl ?_
                              refine pw_iald r_12_couldBe_162 sh216 (by omega) (by omega) ?_
                              refine pw_aload r_12_couldBe_163 rfl ?_
                              refine pw_getR r_12_couldBe_164 fs_12_88 (by decide) ?_
                              refine pw_iload r_12_couldBe_167 rfl ?_
                              refine pw_iald r_12_couldBe_169 sh260 (by omega) (by omega) ?_
                              refine pw_icmp_ne r_12_couldBe_170 (fun h170 => ?_) (fun h170 => ?_)
                              · skip
                                refine pw_const r_12_couldBe_177 ?_
                                refine pw_istore (ls' := [some (vR 12 (0)), some (vI (p)), some (vI (0)), some (vI (s)), some (vI (z)), some (vI (t)), some (vI (gF G 12 (0) 0)), some (vI (gA G 261 (0) (t))), some (vI (1))]) r_12_couldBe_178 rfl rfl ?_
                                refine pw_iinc (b := 0) (ls' := [some (vR 12 (0)), some (vI (p)), some (vI (0)), some (vI (s)), some (vI (z)), some (vI ((t + 1))), some (vI (gF G 12 (0) 0)), some (vI (gA G 261 (0) (t))), some (vI (1))]) r_12_couldBe_179 rfl rfl (by omega) rfl ?_
                                refine pw_goto r_12_couldBe_182 ?_
                                refine pw_weakL (ls' := [some (vR 12 (0)), some (vI (p)), some (vI (0)), some (vI (s)), some (vI (z)), some (vI ((t + 1))), none, none, none]) (⟨rfl, ⟨rfl, ⟨rfl, ⟨rfl, ⟨rfl, ⟨rfl, trivial⟩⟩⟩⟩⟩⟩) ?_
                                exact ih39 ((t + 1)) (z) (0) (by omega) (hz) (by first | exact (b2i_t ⟨hA.1, all_s hA.2 (by intro _ _; omega)⟩).symm | exact (b2i_f (fun q => h149n ⟨q.1, fun y a b => q.2 y a (by omega)⟩)).symm | exact (b2i_f (fun q => by have := q.2 t (by omega) (by omega); omega)).symm) (by omega)
                              · skip
                                refine pw_const r_12_couldBe_173 ?_
                                refine pw_goto r_12_couldBe_174 ?_
                                refine pw_istore (ls' := [some (vR 12 (0)), some (vI (p)), some (vI (1)), some (vI (s)), some (vI (z)), some (vI (t)), some (vI (gF G 12 (0) 0)), some (vI (gA G 261 (0) (t))), some (vI (1))]) r_12_couldBe_178 rfl rfl ?_
                                refine pw_iinc (b := 0) (ls' := [some (vR 12 (0)), some (vI (p)), some (vI (1)), some (vI (s)), some (vI (z)), some (vI ((t + 1))), some (vI (gF G 12 (0) 0)), some (vI (gA G 261 (0) (t))), some (vI (1))]) r_12_couldBe_179 rfl rfl (by omega) rfl ?_
                                refine pw_goto r_12_couldBe_182 ?_
                                refine pw_weakL (ls' := [some (vR 12 (0)), some (vI (p)), some (vI (1)), some (vI (s)), some (vI (z)), some (vI ((t + 1))), none, none, none]) (⟨rfl, ⟨rfl, ⟨rfl, ⟨rfl, ⟨rfl, ⟨rfl, trivial⟩⟩⟩⟩⟩⟩) ?_
                                exact ih39 ((t + 1)) (z) (1) (by omega) (hz) (by first | exact (b2i_t ⟨hA.1, all_s hA.2 (by intro _ _; omega)⟩).symm | exact (b2i_f (fun q => h149n ⟨q.1, fun y a b => q.2 y a (by omega)⟩)).symm | exact (b2i_f (fun q => by have := q.2 t (by omega) (by omega); omega)).symm) (by omega)
                    · skip
                      refine pw_aload r_12_couldBe_104 rfl ?_
                      refine pw_getR r_12_couldBe_105 fs_12_20 (by decide) ?_
                      refine pw_iload r_12_couldBe_108 rfl ?_
                      refine pw_iald r_12_couldBe_109 sh217 (by omega) (by omega) ?_
                      refine pw_goto r_12_couldBe_110 ?_
                      refine pw_istore (ls' := [some (vR 12 (0)), some (vI (p)), some (vI (v)), some (vI (s)), some (vI (z)), some (vI (t)), some (vI (gF G 12 (0) 0)), some (vI (gA G 217 (0) (s))), none]) r_12_couldBe_120 rfl rfl ?_
                      refine pw_iload r_12_couldBe_122 rfl ?_
                      refine pw_iload r_12_couldBe_124 rfl ?_
                      refine pw_iload r_12_couldBe_126 rfl ?_
                      refine pw_icmp_ge r_12_couldBe_128 (fun h128 => ?_) (fun h128 => ?_)
                      · skip
                        refine pw_iload r_12_couldBe_136 rfl ?_
                        refine pw_icmp_gt r_12_couldBe_138 (fun h138 => ?_) (fun h138 => ?_)
                        · skip
                          refine pw_const r_12_couldBe_145 ?_
                          refine pw_istore (ls' := [some (vR 12 (0)), some (vI (p)), some (vI (v)), some (vI (s)), some (vI (z)), some (vI (t)), some (vI (gF G 12 (0) 0)), some (vI (gA G 217 (0) (s))), some (vI (0))]) r_12_couldBe_146 rfl rfl ?_
                          refine pw_iload r_12_couldBe_148 rfl ?_
                          refine pw_if_eq r_12_couldBe_149 (fun h149 => ?_) (fun h149 => ?_)
                          · skip
                            have h149n := b2i_eq0.mp (hw.symm.trans h149)
                            refine pw_const r_12_couldBe_177 ?_
                            refine pw_istore (ls' := [some (vR 12 (0)), some (vI (p)), some (vI (0)), some (vI (s)), some (vI (z)), some (vI (t)), some (vI (gF G 12 (0) 0)), some (vI (gA G 217 (0) (s))), some (vI (0))]) r_12_couldBe_178 rfl rfl ?_
                            refine pw_iinc (b := 0) (ls' := [some (vR 12 (0)), some (vI (p)), some (vI (0)), some (vI (s)), some (vI (z)), some (vI ((t + 1))), some (vI (gF G 12 (0) 0)), some (vI (gA G 217 (0) (s))), some (vI (0))]) r_12_couldBe_179 rfl rfl (by omega) rfl ?_
                            refine pw_goto r_12_couldBe_182 ?_
                            refine pw_weakL (ls' := [some (vR 12 (0)), some (vI (p)), some (vI (0)), some (vI (s)), some (vI (z)), some (vI ((t + 1))), none, none, none]) (⟨rfl, ⟨rfl, ⟨rfl, ⟨rfl, ⟨rfl, ⟨rfl, trivial⟩⟩⟩⟩⟩⟩) ?_
                            exact ih39 ((t + 1)) (z) (0) (by omega) (hz) (by first | exact (b2i_t ⟨hA.1, all_s hA.2 (by intro _ _; omega)⟩).symm | exact (b2i_f (fun q => h149n ⟨q.1, fun y a b => q.2 y a (by omega)⟩)).symm | exact (b2i_f (fun q => by have := q.2 t (by omega) (by omega); omega)).symm) (by omega)
                          · skip
                            have hv1 : v = 1 := by rcases b2i_01 (((∀ x, 0 ≤ x → x < s → ∀ y, 0 ≤ y → y < (gF G 12 0 91) → ((gA G 215 0 (x)) = p → ((gA G 217 0 (x)) ≤ (gA G 262 0 (y)) ∧ (gA G 217 0 (x)) ≤ (gF G 12 0 0) ∧ (gA G 261 0 (y)) ≤ (gA G 262 0 (y)) ∧ (gA G 261 0 (y)) ≤ (gF G 12 0 0) ∧ ((gA G 218 0 (x)) < 0 ∨ (0 ≤ (gA G 218 0 (x)) ∧ (gA G 217 0 (x)) ≤ (gA G 218 0 (x)) ∧ (gA G 261 0 (y)) ≤ (gA G 218 0 (x))))) → (gA G 216 0 (x)) = (gA G 260 0 (y)))) ∧ ∀ y, 0 ≤ y → y < t → ((gA G 215 0 (s)) = p → ((gA G 217 0 (s)) ≤ (gA G 262 0 (y)) ∧ (gA G 217 0 (s)) ≤ (gF G 12 0 0) ∧ (gA G 261 0 (y)) ≤ (gA G 262 0 (y)) ∧ (gA G 261 0 (y)) ≤ (gF G 12 0 0) ∧ ((gA G 218 0 (s)) < 0 ∨ (0 ≤ (gA G 218 0 (s)) ∧ (gA G 217 0 (s)) ≤ (gA G 218 0 (s)) ∧ (gA G 261 0 (y)) ≤ (gA G 218 0 (s))))) → (gA G 216 0 (s)) = (gA G 260 0 (y))))) with q | q; exact absurd (hw.trans q) h149; exact hw.trans q
                            have hA := b2i_eq1.mp (hw.symm.trans hv1)
                            refine pw_iload r_12_couldBe_152 rfl ?_
                            refine pw_if_eq r_12_couldBe_154 (fun h154 => ?_) (fun h154 => ?_)
                            · skip
                              refine pw_const r_12_couldBe_173 ?_
                              refine pw_goto r_12_couldBe_174 ?_
                              refine pw_istore (ls' := [some (vR 12 (0)), some (vI (p)), some (vI (1)), some (vI (s)), some (vI (z)), some (vI (t)), some (vI (gF G 12 (0) 0)), some (vI (gA G 217 (0) (s))), some (vI (0))]) r_12_couldBe_178 rfl rfl ?_
                              refine pw_iinc (b := 0) (ls' := [some (vR 12 (0)), some (vI (p)), some (vI (1)), some (vI (s)), some (vI (z)), some (vI ((t + 1))), some (vI (gF G 12 (0) 0)), some (vI (gA G 217 (0) (s))), some (vI (0))]) r_12_couldBe_179 rfl rfl (by omega) rfl ?_
                              refine pw_goto r_12_couldBe_182 ?_
                              refine pw_weakL (ls' := [some (vR 12 (0)), some (vI (p)), some (vI (1)), some (vI (s)), some (vI (z)), some (vI ((t + 1))), none, none, none]) (⟨rfl, ⟨rfl, ⟨rfl, ⟨rfl, ⟨rfl, ⟨rfl, trivial⟩⟩⟩⟩⟩⟩) ?_
                              exact ih39 ((t + 1)) (z) (1) (by omega) (hz) (by first | exact (b2i_t ⟨hA.1, all_s hA.2 (by intro _ _; omega)⟩).symm | exact (b2i_f (fun q => h149n ⟨q.1, fun y a b => q.2 y a (by omega)⟩)).symm | exact (b2i_f (fun q => by have := q.2 t (by omega) (by omega); omega)).symm) (by omega)
                            · skip
                              refine pw_aload r_12_couldBe_157 rfl ?_
                              refine pw_getR r_12_couldBe_158 fs_12_19 (by decide) ?_
                              refine pw_iload r_12_couldBe_161 rfl ?_
                              refine pw_iald r_12_couldBe_162 sh216 (by omega) (by omega) ?_
                              refine pw_aload r_12_couldBe_163 rfl ?_
                              refine pw_getR r_12_couldBe_164 fs_12_88 (by decide) ?_
                              refine pw_iload r_12_couldBe_167 rfl ?_
                              refine pw_iald r_12_couldBe_169 sh260 (by omega) (by omega) ?_
                              refine pw_icmp_ne r_12_couldBe_170 (fun h170 => ?_) (fun h170 => ?_)
                              · skip
                                refine pw_const r_12_couldBe_177 ?_
                                refine pw_istore (ls' := [some (vR 12 (0)), some (vI (p)), some (vI (0)), some (vI (s)), some (vI (z)), some (vI (t)), some (vI (gF G 12 (0) 0)), some (vI (gA G 217 (0) (s))), some (vI (0))]) r_12_couldBe_178 rfl rfl ?_
                                refine pw_iinc (b := 0) (ls' := [some (vR 12 (0)), some (vI (p)), some (vI (0)), some (vI (s)), some (vI (z)), some (vI ((t + 1))), some (vI (gF G 12 (0) 0)), some (vI (gA G 217 (0) (s))), some (vI (0))]) r_12_couldBe_179 rfl rfl (by omega) rfl ?_
                                refine pw_goto r_12_couldBe_182 ?_
                                refine pw_weakL (ls' := [some (vR 12 (0)), some (vI (p)), some (vI (0)), some (vI (s)), some (vI (z)), some (vI ((t + 1))), none, none, none]) (⟨rfl, ⟨rfl, ⟨rfl, ⟨rfl, ⟨rfl, ⟨rfl, trivial⟩⟩⟩⟩⟩⟩) ?_
                                exact ih39 ((t + 1)) (z) (0) (by omega) (hz) (by first | exact (b2i_t ⟨hA.1, all_s hA.2 (by intro _ _; omega)⟩).symm | exact (b2i_f (fun q => h149n ⟨q.1, fun y a b => q.2 y a (by omega)⟩)).symm | exact (b2i_f (fun q => by have := q.2 t (by omega) (by omega); omega)).symm) (by omega)
                              · skip
                                refine pw_const r_12_couldBe_173 ?_
                                refine pw_goto r_12_couldBe_174 ?_
                                refine pw_istore (ls' := [some (vR 12 (0)), some (vI (p)), some (vI (1)), some (vI (s)), some (vI (z)), some (vI (t)), some (vI (gF G 12 (0) 0)), some (vI (gA G 217 (0) (s))), some (vI (0))]) r_12_couldBe_178 rfl rfl ?_
                                refine pw_iinc (b := 0) (ls' := [some (vR 12 (0)), some (vI (p)), some (vI (1)), some (vI (s)), some (vI (z)), some (vI ((t + 1))), some (vI (gF G 12 (0) 0)), some (vI (gA G 217 (0) (s))), some (vI (0))]) r_12_couldBe_179 rfl rfl (by omega) rfl ?_
                                refine pw_goto r_12_couldBe_182 ?_
                                refine pw_weakL (ls' := [some (vR 12 (0)), some (vI (p)), some (vI (1)), some (vI (s)), some (vI (z)), some (vI ((t + 1))), none, none, none]) (⟨rfl, ⟨rfl, ⟨rfl, ⟨rfl, ⟨rfl, ⟨rfl, trivial⟩⟩⟩⟩⟩⟩) ?_
                                exact ih39 ((t + 1)) (z) (1) (by omega) (hz) (by first | exact (b2i_t ⟨hA.1, all_s hA.2 (by intro _ _; omega)⟩).symm | exact (b2i_f (fun q => h149n ⟨q.1, fun y a b => q.2 y a (by omega)⟩)).symm | exact (b2i_f (fun q => by have := q.2 t (by omega) (by omega); omega)).symm) (by omega)
                        · skip
                          refine pw_const r_12_couldBe_141 ?_
                          refine pw_goto r_12_couldBe_142 ?_
                          refine pw_istore (ls' := [some (vR 12 (0)), some (vI (p)), some (vI (v)), some (vI (s)), some (vI (z)), some (vI (t)), some (vI (gF G 12 (0) 0)), some (vI (gA G 217 (0) (s))), some (vI (1))]) r_12_couldBe_146 rfl rfl ?_
                          refine pw_iload r_12_couldBe_148 rfl ?_
                          refine pw_if_eq r_12_couldBe_149 (fun h149 => ?_) (fun h149 => ?_)
                          · skip
                            have h149n := b2i_eq0.mp (hw.symm.trans h149)
                            refine pw_const r_12_couldBe_177 ?_
                            refine pw_istore (ls' := [some (vR 12 (0)), some (vI (p)), some (vI (0)), some (vI (s)), some (vI (z)), some (vI (t)), some (vI (gF G 12 (0) 0)), some (vI (gA G 217 (0) (s))), some (vI (1))]) r_12_couldBe_178 rfl rfl ?_
                            refine pw_iinc (b := 0) (ls' := [some (vR 12 (0)), some (vI (p)), some (vI (0)), some (vI (s)), some (vI (z)), some (vI ((t + 1))), some (vI (gF G 12 (0) 0)), some (vI (gA G 217 (0) (s))), some (vI (1))]) r_12_couldBe_179 rfl rfl (by omega) rfl ?_
                            refine pw_goto r_12_couldBe_182 ?_
                            refine pw_weakL (ls' := [some (vR 12 (0)), some (vI (p)), some (vI (0)), some (vI (s)), some (vI (z)), some (vI ((t + 1))), none, none, none]) (⟨rfl, ⟨rfl, ⟨rfl, ⟨rfl, ⟨rfl, ⟨rfl, trivial⟩⟩⟩⟩⟩⟩) ?_
                            exact ih39 ((t + 1)) (z) (0) (by omega) (hz) (by first | exact (b2i_t ⟨hA.1, all_s hA.2 (by intro _ _; omega)⟩).symm | exact (b2i_f (fun q => h149n ⟨q.1, fun y a b => q.2 y a (by omega)⟩)).symm | exact (b2i_f (fun q => by have := q.2 t (by omega) (by omega); omega)).symm) (by omega)
                          · skip
                            have hv1 : v = 1 := by rcases b2i_01 (((∀ x, 0 ≤ x → x < s → ∀ y, 0 ≤ y → y < (gF G 12 0 91) → ((gA G 215 0 (x)) = p → ((gA G 217 0 (x)) ≤ (gA G 262 0 (y)) ∧ (gA G 217 0 (x)) ≤ (gF G 12 0 0) ∧ (gA G 261 0 (y)) ≤ (gA G 262 0 (y)) ∧ (gA G 261 0 (y)) ≤ (gF G 12 0 0) ∧ ((gA G 218 0 (x)) < 0 ∨ (0 ≤ (gA G 218 0 (x)) ∧ (gA G 217 0 (x)) ≤ (gA G 218 0 (x)) ∧ (gA G 261 0 (y)) ≤ (gA G 218 0 (x))))) → (gA G 216 0 (x)) = (gA G 260 0 (y)))) ∧ ∀ y, 0 ≤ y → y < t → ((gA G 215 0 (s)) = p → ((gA G 217 0 (s)) ≤ (gA G 262 0 (y)) ∧ (gA G 217 0 (s)) ≤ (gF G 12 0 0) ∧ (gA G 261 0 (y)) ≤ (gA G 262 0 (y)) ∧ (gA G 261 0 (y)) ≤ (gF G 12 0 0) ∧ ((gA G 218 0 (s)) < 0 ∨ (0 ≤ (gA G 218 0 (s)) ∧ (gA G 217 0 (s)) ≤ (gA G 218 0 (s)) ∧ (gA G 261 0 (y)) ≤ (gA G 218 0 (s))))) → (gA G 216 0 (s)) = (gA G 260 0 (y))))) with q | q; exact absurd (hw.trans q) h149; exact hw.trans q
                            have hA := b2i_eq1.mp (hw.symm.trans hv1)
                            refine pw_iload r_12_couldBe_152 rfl ?_
                            refine pw_if_eq r_12_couldBe_154 (fun h154 => ?_) (fun h154 => ?_)
                            · skip
                              refine pw_const r_12_couldBe_173 ?_
                              refine pw_goto r_12_couldBe_174 ?_
                              refine pw_istore (ls' := [some (vR 12 (0)), some (vI (p)), some (vI (1)), some (vI (s)), some (vI (z)), some (vI (t)), some (vI (gF G 12 (0) 0)), some (vI (gA G 217 (0) (s))), some (vI (1))]) r_12_couldBe_178 rfl rfl ?_
                              refine pw_iinc (b := 0) (ls' := [some (vR 12 (0)), some (vI (p)), some (vI (1)), some (vI (s)), some (vI (z)), some (vI ((t + 1))), some (vI (gF G 12 (0) 0)), some (vI (gA G 217 (0) (s))), some (vI (1))]) r_12_couldBe_179 rfl rfl (by omega) rfl ?_
                              refine pw_goto r_12_couldBe_182 ?_
                              refine pw_weakL (ls' := [some (vR 12 (0)), some (vI (p)), some (vI (1)), some (vI (s)), some (vI (z)), some (vI ((t + 1))), none, none, none]) (⟨rfl, ⟨rfl, ⟨rfl, ⟨rfl, ⟨rfl, ⟨rfl, trivial⟩⟩⟩⟩⟩⟩) ?_
                              exact ih39 ((t + 1)) (z) (1) (by omega) (hz) (by first | exact (b2i_t ⟨hA.1, all_s hA.2 (by intro _ _; omega)⟩).symm | exact (b2i_f (fun q => h149n ⟨q.1, fun y a b => q.2 y a (by omega)⟩)).symm | exact (b2i_f (fun q => by have := q.2 t (by omega) (by omega); omega)).symm) (by omega)
                            · skip
                              refine pw_aload r_12_couldBe_157 rfl ?_
                              refine pw_getR r_12_couldBe_158 fs_12_19 (by decide) ?_
                              refine pw_iload r_12_couldBe_161 rfl ?_
                              refine pw_iald r_12_couldBe_162 sh216 (by omega) (by omega) ?_
                              refine pw_aload r_12_couldBe_163 rfl ?_
                              refine pw_getR r_12_couldBe_164 fs_12_88 (by decide) ?_
                              refine pw_iload r_12_couldBe_167 rfl ?_
                              refine pw_iald r_12_couldBe_169 sh260 (by omega) (by omega) ?_
                              refine pw_icmp_ne r_12_couldBe_170 (fun h170 => ?_) (fun h170 => ?_)
                              · skip
                                refine pw_const r_12_couldBe_177 ?_
                                refine pw_istore (ls' := [some (vR 12 (0)), some (vI (p)), some (vI (0)), some (vI (s)), some (vI (z)), some (vI (t)), some (vI (gF G 12 (0) 0)), some (vI (gA G 217 (0) (s))), some (vI (1))]) r_12_couldBe_178 rfl rfl ?_
                                refine pw_iinc (b := 0) (ls' := [some (vR 12 (0)), some (vI (p)), some (vI (0)), some (vI (s)), some (vI (z)), some (vI ((t + 1))), some (vI (gF G 12 (0) 0)), some (vI (gA G 217 (0) (s))), some (vI (1))]) r_12_couldBe_179 rfl rfl (by omega) rfl ?_
                                refine pw_goto r_12_couldBe_182 ?_
                                refine pw_weakL (ls' := [some (vR 12 (0)), some (vI (p)), some (vI (0)), some (vI (s)), some (vI (z)), some (vI ((t + 1))), none, none, none]) (⟨rfl, ⟨rfl, ⟨rfl, ⟨rfl, ⟨rfl, ⟨rfl, trivial⟩⟩⟩⟩⟩⟩) ?_
                                exact ih39 ((t + 1)) (z) (0) (by omega) (hz) (by first | exact (b2i_t ⟨hA.1, all_s hA.2 (by intro _ _; omega)⟩).symm | exact (b2i_f (fun q => h149n ⟨q.1, fun y a b => q.2 y a (by omega)⟩)).symm | exact (b2i_f (fun q => by have := q.2 t (by omega) (by omega); omega)).symm) (by omega)
                              · skip
                                refine pw_const r_12_couldBe_173 ?_
                                refine pw_goto r_12_couldBe_174 ?_
                                refine pw_istore (ls' := [some (vR 12 (0)), some (vI (p)), some (vI (1)), some (vI (s)), some (vI (z)), some (vI (t)), some (vI (gF G 12 (0) 0)), some (vI (gA G 217 (0) (s))), some (vI (1))]) r_12_couldBe_178 rfl rfl ?_
                                refine pw_iinc (b := 0) (ls' := [some (vR 12 (0)), some (vI (p)), some (vI (1)), some (vI (s)), some (vI (z)), some (vI ((t + 1))), some (vI (gF G 12 (0) 0)), some (vI (gA G 217 (0) (s))), some (vI (1))]) r_12_couldBe_179 rfl rfl (by omega) rfl ?_
                                refine pw_goto r_12_couldBe_182 ?_
                                refine pw_weakL (ls' := [some (vR 12 (0)), some (vI (p)), some (vI (1)), some (vI (s)), some (vI (z)), some (vI ((t + 1))), none, none, none]) (⟨rfl, ⟨rfl, ⟨rfl, ⟨rfl, ⟨rfl, ⟨rfl, trivial⟩⟩⟩⟩⟩⟩) ?_
                                exact ih39 ((t + 1)) (z) (1) (by omega) (hz) (by first | exact (b2i_t ⟨hA.1, all_s hA.2 (by intro _ _; omega)⟩).symm | exact (b2i_f (fun q => h149n ⟨q.1, fun y a b => q.2 y a (by omega)⟩)).symm | exact (b2i_f (fun q => by have := q.2 t (by omega) (by omega); omega)).symm) (by omega)
                      · skip
                        refine pw_iload r_12_couldBe_131 rfl ?_
                        refine pw_goto r_12_couldBe_133 ?_
                        refine pw_icmp_gt r_12_couldBe_138 (fun h138 => ?_) (fun h138 => ?_)
                        · skip
                          refine pw_const r_12_couldBe_145 ?_
                          refine pw_istore (ls' := [some (vR 12 (0)), some (vI (p)), some (vI (v)), some (vI (s)), some (vI (z)), some (vI (t)), some (vI (gF G 12 (0) 0)), some (vI (gA G 217 (0) (s))), some (vI (0))]) r_12_couldBe_146 rfl rfl ?_
                          refine pw_iload r_12_couldBe_148 rfl ?_
                          refine pw_if_eq r_12_couldBe_149 (fun h149 => ?_) (fun h149 => ?_)
                          · skip
                            have h149n := b2i_eq0.mp (hw.symm.trans h149)
                            refine pw_const r_12_couldBe_177 ?_
                            refine pw_istore (ls' := [some (vR 12 (0)), some (vI (p)), some (vI (0)), some (vI (s)), some (vI (z)), some (vI (t)), some (vI (gF G 12 (0) 0)), some (vI (gA G 217 (0) (s))), some (vI (0))]) r_12_couldBe_178 rfl rfl ?_
                            refine pw_iinc (b := 0) (ls' := [some (vR 12 (0)), some (vI (p)), some (vI (0)), some (vI (s)), some (vI (z)), some (vI ((t + 1))), some (vI (gF G 12 (0) 0)), some (vI (gA G 217 (0) (s))), some (vI (0))]) r_12_couldBe_179 rfl rfl (by omega) rfl ?_
                            refine pw_goto r_12_couldBe_182 ?_
                            refine pw_weakL (ls' := [some (vR 12 (0)), some (vI (p)), some (vI (0)), some (vI (s)), some (vI (z)), some (vI ((t + 1))), none, none, none]) (⟨rfl, ⟨rfl, ⟨rfl, ⟨rfl, ⟨rfl, ⟨rfl, trivial⟩⟩⟩⟩⟩⟩) ?_
                            exact ih39 ((t + 1)) (z) (0) (by omega) (hz) (by first | exact (b2i_t ⟨hA.1, all_s hA.2 (by intro _ _; omega)⟩).symm | exact (b2i_f (fun q => h149n ⟨q.1, fun y a b => q.2 y a (by omega)⟩)).symm | exact (b2i_f (fun q => by have := q.2 t (by omega) (by omega); omega)).symm) (by omega)
                          · skip
                            have hv1 : v = 1 := by rcases b2i_01 (((∀ x, 0 ≤ x → x < s → ∀ y, 0 ≤ y → y < (gF G 12 0 91) → ((gA G 215 0 (x)) = p → ((gA G 217 0 (x)) ≤ (gA G 262 0 (y)) ∧ (gA G 217 0 (x)) ≤ (gF G 12 0 0) ∧ (gA G 261 0 (y)) ≤ (gA G 262 0 (y)) ∧ (gA G 261 0 (y)) ≤ (gF G 12 0 0) ∧ ((gA G 218 0 (x)) < 0 ∨ (0 ≤ (gA G 218 0 (x)) ∧ (gA G 217 0 (x)) ≤ (gA G 218 0 (x)) ∧ (gA G 261 0 (y)) ≤ (gA G 218 0 (x))))) → (gA G 216 0 (x)) = (gA G 260 0 (y)))) ∧ ∀ y, 0 ≤ y → y < t → ((gA G 215 0 (s)) = p → ((gA G 217 0 (s)) ≤ (gA G 262 0 (y)) ∧ (gA G 217 0 (s)) ≤ (gF G 12 0 0) ∧ (gA G 261 0 (y)) ≤ (gA G 262 0 (y)) ∧ (gA G 261 0 (y)) ≤ (gF G 12 0 0) ∧ ((gA G 218 0 (s)) < 0 ∨ (0 ≤ (gA G 218 0 (s)) ∧ (gA G 217 0 (s)) ≤ (gA G 218 0 (s)) ∧ (gA G 261 0 (y)) ≤ (gA G 218 0 (s))))) → (gA G 216 0 (s)) = (gA G 260 0 (y))))) with q | q; exact absurd (hw.trans q) h149; exact hw.trans q
                            have hA := b2i_eq1.mp (hw.symm.trans hv1)
                            refine pw_iload r_12_couldBe_152 rfl ?_
                            refine pw_if_eq r_12_couldBe_154 (fun h154 => ?_) (fun h154 => ?_)
                            · skip
                              refine pw_const r_12_couldBe_173 ?_
                              refine pw_goto r_12_couldBe_174 ?_
                              refine pw_istore (ls' := [some (vR 12 (0)), some (vI (p)), some (vI (1)), some (vI (s)), some (vI (z)), some (vI (t)), some (vI (gF G 12 (0) 0)), some (vI (gA G 217 (0) (s))), some (vI (0))]) r_12_couldBe_178 rfl rfl ?_
                              refine pw_iinc (b := 0) (ls' := [some (vR 12 (0)), some (vI (p)), some (vI (1)), some (vI (s)), some (vI (z)), some (vI ((t + 1))), some (vI (gF G 12 (0) 0)), some (vI (gA G 217 (0) (s))), some (vI (0))]) r_12_couldBe_179 rfl rfl (by omega) rfl ?_
                              refine pw_goto r_12_couldBe_182 ?_
                              refine pw_weakL (ls' := [some (vR 12 (0)), some (vI (p)), some (vI (1)), some (vI (s)), some (vI (z)), some (vI ((t + 1))), none, none, none]) (⟨rfl, ⟨rfl, ⟨rfl, ⟨rfl, ⟨rfl, ⟨rfl, trivial⟩⟩⟩⟩⟩⟩) ?_
                              exact ih39 ((t + 1)) (z) (1) (by omega) (hz) (by first | exact (b2i_t ⟨hA.1, all_s hA.2 (by intro _ _; omega)⟩).symm | exact (b2i_f (fun q => h149n ⟨q.1, fun y a b => q.2 y a (by omega)⟩)).symm | exact (b2i_f (fun q => by have := q.2 t (by omega) (by omega); omega)).symm) (by omega)
                            · skip
                              refine pw_aload r_12_couldBe_157 rfl ?_
                              refine pw_getR r_12_couldBe_158 fs_12_19 (by decide) ?_
                              refine pw_iload r_12_couldBe_161 rfl ?_
                              refine pw_iald r_12_couldBe_162 sh216 (by omega) (by omega) ?_
                              refine pw_aload r_12_couldBe_163 rfl ?_
                              refine pw_getR r_12_couldBe_164 fs_12_88 (by decide) ?_
                              refine pw_iload r_12_couldBe_167 rfl ?_
                              refine pw_iald r_12_couldBe_169 sh260 (by omega) (by omega) ?_
                              refine pw_icmp_ne r_12_couldBe_170 (fun h170 => ?_) (fun h170 => ?_)
                              · skip
                                refine pw_const r_12_couldBe_177 ?_
                                refine pw_istore (ls' := [some (vR 12 (0)), some (vI (p)), some (vI (0)), some (vI (s)), some (vI (z)), some (vI (t)), some (vI (gF G 12 (0) 0)), some (vI (gA G 217 (0) (s))), some (vI (0))]) r_12_couldBe_178 rfl rfl ?_
                                refine pw_iinc (b := 0) (ls' := [some (vR 12 (0)), some (vI (p)), some (vI (0)), some (vI (s)), some (vI (z)), some (vI ((t + 1))), some (vI (gF G 12 (0) 0)), some (vI (gA G 217 (0) (s))), some (vI (0))]) r_12_couldBe_179 rfl rfl (by omega) rfl ?_
                                refine pw_goto r_12_couldBe_182 ?_
                                refine pw_weakL (ls' := [some (vR 12 (0)), some (vI (p)), some (vI (0)), some (vI (s)), some (vI (z)), some (vI ((t + 1))), none, none, none]) (⟨rfl, ⟨rfl, ⟨rfl, ⟨rfl, ⟨rfl, ⟨rfl, trivial⟩⟩⟩⟩⟩⟩) ?_
                                exact ih39 ((t + 1)) (z) (0) (by omega) (hz) (by first | exact (b2i_t ⟨hA.1, all_s hA.2 (by intro _ _; omega)⟩).symm | exact (b2i_f (fun q => h149n ⟨q.1, fun y a b => q.2 y a (by omega)⟩)).symm | exact (b2i_f (fun q => by have := q.2 t (by omega) (by omega); omega)).symm) (by omega)
                              · skip
                                refine pw_const r_12_couldBe_173 ?_
                                refine pw_goto r_12_couldBe_174 ?_
                                refine pw_istore (ls' := [some (vR 12 (0)), some (vI (p)), some (vI (1)), some (vI (s)), some (vI (z)), some (vI (t)), some (vI (gF G 12 (0) 0)), some (vI (gA G 217 (0) (s))), some (vI (0))]) r_12_couldBe_178 rfl rfl ?_
                                refine pw_iinc (b := 0) (ls' := [some (vR 12 (0)), some (vI (p)), some (vI (1)), some (vI (s)), some (vI (z)), some (vI ((t + 1))), some (vI (gF G 12 (0) 0)), some (vI (gA G 217 (0) (s))), some (vI (0))]) r_12_couldBe_179 rfl rfl (by omega) rfl ?_
                                refine pw_goto r_12_couldBe_182 ?_
                                refine pw_weakL (ls' := [some (vR 12 (0)), some (vI (p)), some (vI (1)), some (vI (s)), some (vI (z)), some (vI ((t + 1))), none, none, none]) (⟨rfl, ⟨rfl, ⟨rfl, ⟨rfl, ⟨rfl, ⟨rfl, trivial⟩⟩⟩⟩⟩⟩) ?_
                                exact ih39 ((t + 1)) (z) (1) (by omega) (hz) (by first | exact (b2i_t ⟨hA.1, all_s hA.2 (by intro _ _; omega)⟩).symm | exact (b2i_f (fun q => h149n ⟨q.1, fun y a b => q.2 y a (by omega)⟩)).symm | exact (b2i_f (fun q => by have := q.2 t (by omega) (by omega); omega)).symm) (by omega)
                        · skip
                          refine pw_const r_12_couldBe_141 ?_
                          refine pw_goto r_12_couldBe_142 ?_
                          refine pw_istore (ls' := [some (vR 12 (0)), some (vI (p)), some (vI (v)), some (vI (s)), some (vI (z)), some (vI (t)), some (vI (gF G 12 (0) 0)), some (vI (gA G 217 (0) (s))), some (vI (1))]) r_12_couldBe_146 rfl rfl ?_
                          refine pw_iload r_12_couldBe_148 rfl ?_
                          refine pw_if_eq r_12_couldBe_149 (fun h149 => ?_) (fun h149 => ?_)
                          · skip
                            have h149n := b2i_eq0.mp (hw.symm.trans h149)
                            refine pw_const r_12_couldBe_177 ?_
                            refine pw_istore (ls' := [some (vR 12 (0)), some (vI (p)), some (vI (0)), some (vI (s)), some (vI (z)), some (vI (t)), some (vI (gF G 12 (0) 0)), some (vI (gA G 217 (0) (s))), some (vI (1))]) r_12_couldBe_178 rfl rfl ?_
                            refine pw_iinc (b := 0) (ls' := [some (vR 12 (0)), some (vI (p)), some (vI (0)), some (vI (s)), some (vI (z)), some (vI ((t + 1))), some (vI (gF G 12 (0) 0)), some (vI (gA G 217 (0) (s))), some (vI (1))]) r_12_couldBe_179 rfl rfl (by omega) rfl ?_
                            refine pw_goto r_12_couldBe_182 ?_
                            refine pw_weakL (ls' := [some (vR 12 (0)), some (vI (p)), some (vI (0)), some (vI (s)), some (vI (z)), some (vI ((t + 1))), none, none, none]) (⟨rfl, ⟨rfl, ⟨rfl, ⟨rfl, ⟨rfl, ⟨rfl, trivial⟩⟩⟩⟩⟩⟩) ?_
                            exact ih39 ((t + 1)) (z) (0) (by omega) (hz) (by first | exact (b2i_t ⟨hA.1, all_s hA.2 (by intro _ _; omega)⟩).symm | exact (b2i_f (fun q => h149n ⟨q.1, fun y a b => q.2 y a (by omega)⟩)).symm | exact (b2i_f (fun q => by have := q.2 t (by omega) (by omega); omega)).symm) (by omega)
                          · skip
                            have hv1 : v = 1 := by rcases b2i_01 (((∀ x, 0 ≤ x → x < s → ∀ y, 0 ≤ y → y < (gF G 12 0 91) → ((gA G 215 0 (x)) = p → ((gA G 217 0 (x)) ≤ (gA G 262 0 (y)) ∧ (gA G 217 0 (x)) ≤ (gF G 12 0 0) ∧ (gA G 261 0 (y)) ≤ (gA G 262 0 (y)) ∧ (gA G 261 0 (y)) ≤ (gF G 12 0 0) ∧ ((gA G 218 0 (x)) < 0 ∨ (0 ≤ (gA G 218 0 (x)) ∧ (gA G 217 0 (x)) ≤ (gA G 218 0 (x)) ∧ (gA G 261 0 (y)) ≤ (gA G 218 0 (x))))) → (gA G 216 0 (x)) = (gA G 260 0 (y)))) ∧ ∀ y, 0 ≤ y → y < t → ((gA G 215 0 (s)) = p → ((gA G 217 0 (s)) ≤ (gA G 262 0 (y)) ∧ (gA G 217 0 (s)) ≤ (gF G 12 0 0) ∧ (gA G 261 0 (y)) ≤ (gA G 262 0 (y)) ∧ (gA G 261 0 (y)) ≤ (gF G 12 0 0) ∧ ((gA G 218 0 (s)) < 0 ∨ (0 ≤ (gA G 218 0 (s)) ∧ (gA G 217 0 (s)) ≤ (gA G 218 0 (s)) ∧ (gA G 261 0 (y)) ≤ (gA G 218 0 (s))))) → (gA G 216 0 (s)) = (gA G 260 0 (y))))) with q | q; exact absurd (hw.trans q) h149; exact hw.trans q
                            have hA := b2i_eq1.mp (hw.symm.trans hv1)
                            refine pw_iload r_12_couldBe_152 rfl ?_
                            refine pw_if_eq r_12_couldBe_154 (fun h154 => ?_) (fun h154 => ?_)
                            · skip
                              refine pw_const r_12_couldBe_173 ?_
                              refine pw_goto r_12_couldBe_174 ?_
                              refine pw_istore (ls' := [some (vR 12 (0)), some (vI (p)), some (vI (1)), some (vI (s)), some (vI (z)), some (vI (t)), some (vI (gF G 12 (0) 0)), some (vI (gA G 217 (0) (s))), some (vI (1))]) r_12_couldBe_178 rfl rfl ?_
                              refine pw_iinc (b := 0) (ls' := [some (vR 12 (0)), some (vI (p)), some (vI (1)), some (vI (s)), some (vI (z)), some (vI ((t + 1))), some (vI (gF G 12 (0) 0)), some (vI (gA G 217 (0) (s))), some (vI (1))]) r_12_couldBe_179 rfl rfl (by omega) rfl ?_
                              refine pw_goto r_12_couldBe_182 ?_
                              refine pw_weakL (ls' := [some (vR 12 (0)), some (vI (p)), some (vI (1)), some (vI (s)), some (vI (z)), some (vI ((t + 1))), none, none, none]) (⟨rfl, ⟨rfl, ⟨rfl, ⟨rfl, ⟨rfl, ⟨rfl, trivial⟩⟩⟩⟩⟩⟩) ?_
                              exact ih39 ((t + 1)) (z) (1) (by omega) (hz) (by first | exact (b2i_t ⟨hA.1, all_s hA.2 (by intro _ _; omega)⟩).symm | exact (b2i_f (fun q => h149n ⟨q.1, fun y a b => q.2 y a (by omega)⟩)).symm | exact (b2i_f (fun q => by have := q.2 t (by omega) (by omega); omega)).symm) (by omega)
                            · skip
                              refine pw_aload r_12_couldBe_157 rfl ?_
                              refine pw_getR r_12_couldBe_158 fs_12_19 (by decide) ?_
                              refine pw_iload r_12_couldBe_161 rfl ?_
                              refine pw_iald r_12_couldBe_162 sh216 (by omega) (by omega) ?_
                              refine pw_aload r_12_couldBe_163 rfl ?_
                              refine pw_getR r_12_couldBe_164 fs_12_88 (by decide) ?_
                              refine pw_iload r_12_couldBe_167 rfl ?_
                              refine pw_iald r_12_couldBe_169 sh260 (by omega) (by omega) ?_
                              refine pw_icmp_ne r_12_couldBe_170 (fun h170 => ?_) (fun h170 => ?_)
                              · skip
                                refine pw_const r_12_couldBe_177 ?_
                                refine pw_istore (ls' := [some (vR 12 (0)), some (vI (p)), some (vI (0)), some (vI (s)), some (vI (z)), some (vI (t)), some (vI (gF G 12 (0) 0)), some (vI (gA G 217 (0) (s))), some (vI (1))]) r_12_couldBe_178 rfl rfl ?_
                                refine pw_iinc (b := 0) (ls' := [some (vR 12 (0)), some (vI (p)), some (vI (0)), some (vI (s)), some (vI (z)), some (vI ((t + 1))), some (vI (gF G 12 (0) 0)), some (vI (gA G 217 (0) (s))), some (vI (1))]) r_12_couldBe_179 rfl rfl (by omega) rfl ?_
                                refine pw_goto r_12_couldBe_182 ?_
                                refine pw_weakL (ls' := [some (vR 12 (0)), some (vI (p)), some (vI (0)), some (vI (s)), some (vI (z)), some (vI ((t + 1))), none, none, none]) (⟨rfl, ⟨rfl, ⟨rfl, ⟨rfl, ⟨rfl, ⟨rfl, trivial⟩⟩⟩⟩⟩⟩) ?_
                                exact ih39 ((t + 1)) (z) (0) (by omega) (hz) (by first | exact (b2i_t ⟨hA.1, all_s hA.2 (by intro _ _; omega)⟩).symm | exact (b2i_f (fun q => h149n ⟨q.1, fun y a b => q.2 y a (by omega)⟩)).symm | exact (b2i_f (fun q => by have := q.2 t (by omega) (by omega); omega)).symm) (by omega)
                              · skip
                                refine pw_const r_12_couldBe_173 ?_
                                refine pw_goto r_12_couldBe_174 ?_
                                refine pw_istore (ls' := [some (vR 12 (0)), some (vI (p)), some (vI (1)), some (vI (s)), some (vI (z)), some (vI (t)), some (vI (gF G 12 (0) 0)), some (vI (gA G 217 (0) (s))), some (vI (1))]) r_12_couldBe_178 rfl rfl ?_
                                refine pw_iinc (b := 0) (ls' := [some (vR 12 (0)), some (vI (p)), some (vI (1)), some (vI (s)), some (vI (z)), some (vI ((t + 1))), some (vI (gF G 12 (0) 0)), some (vI (gA G 217 (0) (s))), some (vI (1))]) r_12_couldBe_179 rfl rfl (by omega) rfl ?_
                                refine pw_goto r_12_couldBe_182 ?_
                                refine pw_weakL (ls' := [some (vR 12 (0)), some (vI (p)), some (vI (1)), some (vI (s)), some (vI (z)), some (vI ((t + 1))), none, none, none]) (⟨rfl, ⟨rfl, ⟨rfl, ⟨rfl, ⟨rfl, ⟨rfl, trivial⟩⟩⟩⟩⟩⟩) ?_
                                exact ih39 ((t + 1)) (z) (1) (by omega) (hz) (by first | exact (b2i_t ⟨hA.1, all_s hA.2 (by intro _ _; omega)⟩).symm | exact (b2i_f (fun q => h149n ⟨q.1, fun y a b => q.2 y a (by omega)⟩)).symm | exact (b2i_f (fun q => by have := q.2 t (by omega) (by omega); omega)).symm) (by omega)
                  · skip
                    refine pw_aload r_12_couldBe_72 rfl ?_
                    refine pw_getR r_12_couldBe_73 fs_12_90 (by decide) ?_
                    refine pw_iload r_12_couldBe_76 rfl ?_
                    refine pw_iald r_12_couldBe_78 sh262 (by omega) (by omega) ?_
                    refine pw_goto r_12_couldBe_79 ?_
                    refine pw_istore (ls' := [some (vR 12 (0)), some (vI (p)), some (vI (v)), some (vI (s)), some (vI (z)), some (vI (t)), some (vI (gA G 262 (0) (t))), none, none]) r_12_couldBe_86 rfl rfl ?_
                    refine pw_aload r_12_couldBe_88 rfl ?_
                    refine pw_getR r_12_couldBe_89 fs_12_20 (by decide) ?_
                    refine pw_iload r_12_couldBe_92 rfl ?_
                    refine pw_iald r_12_couldBe_93 sh217 (by omega) (by omega) ?_
                    refine pw_aload r_12_couldBe_94 rfl ?_
                    refine pw_getR r_12_couldBe_95 fs_12_89 (by decide) ?_
                    refine pw_iload r_12_couldBe_98 rfl ?_
                    refine pw_iald r_12_couldBe_100 sh261 (by omega) (by omega) ?_
                    refine pw_icmp_le r_12_couldBe_101 (fun h101 => ?_) (fun h101 => ?_)
                    · skip
                      refine pw_aload r_12_couldBe_113 rfl ?_
                      refine pw_getR r_12_couldBe_114 fs_12_89 (by decide) ?_
                      refine pw_iload r_12_couldBe_117 rfl ?_
                      refine pw_iald r_12_couldBe_119 sh261 (by omega) (by omega) ?_
                      refine pw_istore (ls' := [some (vR 12 (0)), some (vI (p)), some (vI (v)), some (vI (s)), some (vI (z)), some (vI (t)), some (vI (gA G 262 (0) (t))), some (vI (gA G 261 (0) (t))), none]) r_12_couldBe_120 rfl rfl ?_
                      refine pw_iload r_12_couldBe_122 rfl ?_
                      refine pw_iload r_12_couldBe_124 rfl ?_
                      refine pw_iload r_12_couldBe_126 rfl ?_
                      refine pw_icmp_ge r_12_couldBe_128 (fun h128 => ?_) (fun h128 => ?_)
                      · skip
                        refine pw_iload r_12_couldBe_136 rfl ?_
                        refine pw_icmp_gt r_12_couldBe_138 (fun h138 => ?_) (fun h138 => ?_)
                        · skip
                          refine pw_const r_12_couldBe_145 ?_
                          refine pw_istore (ls' := [some (vR 12 (0)), some (vI (p)), some (vI (v)), some (vI (s)), some (vI (z)), some (vI (t)), some (vI (gA G 262 (0) (t))), some (vI (gA G 261 (0) (t))), some (vI (0))]) r_12_couldBe_146 rfl rfl ?_
                          refine pw_iload r_12_couldBe_148 rfl ?_
                          refine pw_if_eq r_12_couldBe_149 (fun h149 => ?_) (fun h149 => ?_)
                          · skip
                            have h149n := b2i_eq0.mp (hw.symm.trans h149)
                            refine pw_const r_12_couldBe_177 ?_
                            refine pw_istore (ls' := [some (vR 12 (0)), some (vI (p)), some (vI (0)), some (vI (s)), some (vI (z)), some (vI (t)), some (vI (gA G 262 (0) (t))), some (vI (gA G 261 (0) (t))), some (vI (0))]) r_12_couldBe_178 rfl rfl ?_
                            refine pw_iinc (b := 0) (ls' := [some (vR 12 (0)), some (vI (p)), some (vI (0)), some (vI (s)), some (vI (z)), some (vI ((t + 1))), some (vI (gA G 262 (0) (t))), some (vI (gA G 261 (0) (t))), some (vI (0))]) r_12_couldBe_179 rfl rfl (by omega) rfl ?_
                            refine pw_goto r_12_couldBe_182 ?_
                            refine pw_weakL (ls' := [some (vR 12 (0)), some (vI (p)), some (vI (0)), some (vI (s)), some (vI (z)), some (vI ((t + 1))), none, none, none]) (⟨rfl, ⟨rfl, ⟨rfl, ⟨rfl, ⟨rfl, ⟨rfl, trivial⟩⟩⟩⟩⟩⟩) ?_
                            exact ih39 ((t + 1)) (z) (0) (by omega) (hz) (by first | exact (b2i_t ⟨hA.1, all_s hA.2 (by intro _ _; omega)⟩).symm | exact (b2i_f (fun q => h149n ⟨q.1, fun y a b => q.2 y a (by omega)⟩)).symm | exact (b2i_f (fun q => by have := q.2 t (by omega) (by omega); omega)).symm) (by omega)
                          · skip
                            have hv1 : v = 1 := by rcases b2i_01 (((∀ x, 0 ≤ x → x < s → ∀ y, 0 ≤ y → y < (gF G 12 0 91) → ((gA G 215 0 (x)) = p → ((gA G 217 0 (x)) ≤ (gA G 262 0 (y)) ∧ (gA G 217 0 (x)) ≤ (gF G 12 0 0) ∧ (gA G 261 0 (y)) ≤ (gA G 262 0 (y)) ∧ (gA G 261 0 (y)) ≤ (gF G 12 0 0) ∧ ((gA G 218 0 (x)) < 0 ∨ (0 ≤ (gA G 218 0 (x)) ∧ (gA G 217 0 (x)) ≤ (gA G 218 0 (x)) ∧ (gA G 261 0 (y)) ≤ (gA G 218 0 (x))))) → (gA G 216 0 (x)) = (gA G 260 0 (y)))) ∧ ∀ y, 0 ≤ y → y < t → ((gA G 215 0 (s)) = p → ((gA G 217 0 (s)) ≤ (gA G 262 0 (y)) ∧ (gA G 217 0 (s)) ≤ (gF G 12 0 0) ∧ (gA G 261 0 (y)) ≤ (gA G 262 0 (y)) ∧ (gA G 261 0 (y)) ≤ (gF G 12 0 0) ∧ ((gA G 218 0 (s)) < 0 ∨ (0 ≤ (gA G 218 0 (s)) ∧ (gA G 217 0 (s)) ≤ (gA G 218 0 (s)) ∧ (gA G 261 0 (y)) ≤ (gA G 218 0 (s))))) → (gA G 216 0 (s)) = (gA G 260 0 (y))))) with q | q; exact absurd (hw.trans q) h149; exact hw.trans q
                            have hA := b2i_eq1.mp (hw.symm.trans hv1)
                            refine pw_iload r_12_couldBe_152 rfl ?_
                            refine pw_if_eq r_12_couldBe_154 (fun h154 => ?_) (fun h154 => ?_)
                            · skip
                              refine pw_const r_12_couldBe_173 ?_
                              refine pw_goto r_12_couldBe_174 ?_
                              refine pw_istore (ls' := [some (vR 12 (0)), some (vI (p)), some (vI (1)), some (vI (s)), some (vI (z)), some (vI (t)), some (vI (gA G 262 (0) (t))), some (vI (gA G 261 (0) (t))), some (vI (0))]) r_12_couldBe_178 rfl rfl ?_
                              refine pw_iinc (b := 0) (ls' := [some (vR 12 (0)), some (vI (p)), some (vI (1)), some (vI (s)), some (vI (z)), some (vI ((t + 1))), some (vI (gA G 262 (0) (t))), some (vI (gA G 261 (0) (t))), some (vI (0))]) r_12_couldBe_179 rfl rfl (by omega) rfl ?_
                              refine pw_goto r_12_couldBe_182 ?_
                              refine pw_weakL (ls' := [some (vR 12 (0)), some (vI (p)), some (vI (1)), some (vI (s)), some (vI (z)), some (vI ((t + 1))), none, none, none]) (⟨rfl, ⟨rfl, ⟨rfl, ⟨rfl, ⟨rfl, ⟨rfl, trivial⟩⟩⟩⟩⟩⟩) ?_
                              exact ih39 ((t + 1)) (z) (1) (by omega) (hz) (by first | exact (b2i_t ⟨hA.1, all_s hA.2 (by intro _ _; omega)⟩).symm | exact (b2i_f (fun q => h149n ⟨q.1, fun y a b => q.2 y a (by omega)⟩)).symm | exact (b2i_f (fun q => by have := q.2 t (by omega) (by omega); omega)).symm) (by omega)
                            · skip
                              refine pw_aload r_12_couldBe_157 rfl ?_
                              refine pw_getR r_12_couldBe_158 fs_12_19 (by decide) ?_
                              refine pw_iload r_12_couldBe_161 rfl ?_
                              refine pw_iald r_12_couldBe_162 sh216 (by omega) (by omega) ?_
                              refine pw_aload r_12_couldBe_163 rfl ?_
                              refine pw_getR r_12_couldBe_164 fs_12_88 (by decide) ?_
                              refine pw_iload r_12_couldBe_167 rfl ?_
                              refine pw_iald r_12_couldBe_169 sh260 (by omega) (by omega) ?_
                              refine pw_icmp_ne r_12_couldBe_170 (fun h170 => ?_) (fun h170 => ?_)
                              · skip
                                refine pw_const r_12_couldBe_177 ?_
                                refine pw_istore (ls' := [some (vR 12 (0)), some (vI (p)), some (vI (0)), some (vI (s)), some (vI (z)), some (vI (t)), some (vI (gA G 262 (0) (t))), some (vI (gA G 261 (0) (t))), some (vI (0))]) r_12_couldBe_178 rfl rfl ?_
                                refine pw_iinc (b := 0) (ls' := [some (vR 12 (0)), some (vI (p)), some (vI (0)), some (vI (s)), some (vI (z)), some (vI ((t + 1))), some (vI (gA G 262 (0) (t))), some (vI (gA G 261 (0) (t))), some (vI (0))]) r_12_couldBe_179 rfl rfl (by omega) rfl ?_
                                refine pw_goto r_12_couldBe_182 ?_
                                refine pw_weakL (ls' := [some (vR 12 (0)), some (vI (p)), some (vI (0)), some (vI (s)), some (vI (z)), some (vI ((t + 1))), none, none, none]) (⟨rfl, ⟨rfl, ⟨rfl, ⟨rfl, ⟨rfl, ⟨rfl, trivial⟩⟩⟩⟩⟩⟩) ?_
                                exact ih39 ((t + 1)) (z) (0) (by omega) (hz) (by first | exact (b2i_t ⟨hA.1, all_s hA.2 (by intro _ _; omega)⟩).symm | exact (b2i_f (fun q => h149n ⟨q.1, fun y a b => q.2 y a (by omega)⟩)).symm | exact (b2i_f (fun q => by have := q.2 t (by omega) (by omega); omega)).symm) (by omega)
                              · skip
                                refine pw_const r_12_couldBe_173 ?_
                                refine pw_goto r_12_couldBe_174 ?_
                                refine pw_istore (ls' := [some (vR 12 (0)), some (vI (p)), some (vI (1)), some (vI (s)), some (vI (z)), some (vI (t)), some (vI (gA G 262 (0) (t))), some (vI (gA G 261 (0) (t))), some (vI (0))]) r_12_couldBe_178 rfl rfl ?_
                                refine pw_iinc (b := 0) (ls' := [some (vR 12 (0)), some (vI (p)), some (vI (1)), some (vI (s)), some (vI (z)), some (vI ((t + 1))), some (vI (gA G 262 (0) (t))), some (vI (gA G 261 (0) (t))), some (vI (0))]) r_12_couldBe_179 rfl rfl (by omega) rfl ?_
                                refine pw_goto r_12_couldBe_182 ?_
                                refine pw_weakL (ls' := [some (vR 12 (0)), some (vI (p)), some (vI (1)), some (vI (s)), some (vI (z)), some (vI ((t + 1))), none, none, none]) (⟨rfl, ⟨rfl, ⟨rfl, ⟨rfl, ⟨rfl, ⟨rfl, trivial⟩⟩⟩⟩⟩⟩) ?_
                                exact ih39 ((t + 1)) (z) (1) (by omega) (hz) (by first | exact (b2i_t ⟨hA.1, all_s hA.2 (by intro _ _; omega)⟩).symm | exact (b2i_f (fun q => h149n ⟨q.1, fun y a b => q.2 y a (by omega)⟩)).symm | exact (b2i_f (fun q => by have := q.2 t (by omega) (by omega); omega)).symm) (by omega)
                        · skip
                          refine pw_const r_12_couldBe_141 ?_
                          refine pw_goto r_12_couldBe_142 ?_
                          refine pw_istore (ls' := [some (vR 12 (0)), some (vI (p)), some (vI (v)), some (vI (s)), some (vI (z)), some (vI (t)), some (vI (gA G 262 (0) (t))), some (vI (gA G 261 (0) (t))), some (vI (1))]) r_12_couldBe_146 rfl rfl ?_
                          refine pw_iload r_12_couldBe_148 rfl ?_
                          refine pw_if_eq r_12_couldBe_149 (fun h149 => ?_) (fun h149 => ?_)
                          · skip
                            have h149n := b2i_eq0.mp (hw.symm.trans h149)
                            refine pw_const r_12_couldBe_177 ?_
                            refine pw_istore (ls' := [some (vR 12 (0)), some (vI (p)), some (vI (0)), some (vI (s)), some (vI (z)), some (vI (t)), some (vI (gA G 262 (0) (t))), some (vI (gA G 261 (0) (t))), some (vI (1))]) r_12_couldBe_178 rfl rfl ?_
                            refine pw_iinc (b := 0) (ls' := [some (vR 12 (0)), some (vI (p)), some (vI (0)), some (vI (s)), some (vI (z)), some (vI ((t + 1))), some (vI (gA G 262 (0) (t))), some (vI (gA G 261 (0) (t))), some (vI (1))]) r_12_couldBe_179 rfl rfl (by omega) rfl ?_
                            refine pw_goto r_12_couldBe_182 ?_
                            refine pw_weakL (ls' := [some (vR 12 (0)), some (vI (p)), some (vI (0)), some (vI (s)), some (vI (z)), some (vI ((t + 1))), none, none, none]) (⟨rfl, ⟨rfl, ⟨rfl, ⟨rfl, ⟨rfl, ⟨rfl, trivial⟩⟩⟩⟩⟩⟩) ?_
                            exact ih39 ((t + 1)) (z) (0) (by omega) (hz) (by first | exact (b2i_t ⟨hA.1, all_s hA.2 (by intro _ _; omega)⟩).symm | exact (b2i_f (fun q => h149n ⟨q.1, fun y a b => q.2 y a (by omega)⟩)).symm | exact (b2i_f (fun q => by have := q.2 t (by omega) (by omega); omega)).symm) (by omega)
                          · skip
                            have hv1 : v = 1 := by rcases b2i_01 (((∀ x, 0 ≤ x → x < s → ∀ y, 0 ≤ y → y < (gF G 12 0 91) → ((gA G 215 0 (x)) = p → ((gA G 217 0 (x)) ≤ (gA G 262 0 (y)) ∧ (gA G 217 0 (x)) ≤ (gF G 12 0 0) ∧ (gA G 261 0 (y)) ≤ (gA G 262 0 (y)) ∧ (gA G 261 0 (y)) ≤ (gF G 12 0 0) ∧ ((gA G 218 0 (x)) < 0 ∨ (0 ≤ (gA G 218 0 (x)) ∧ (gA G 217 0 (x)) ≤ (gA G 218 0 (x)) ∧ (gA G 261 0 (y)) ≤ (gA G 218 0 (x))))) → (gA G 216 0 (x)) = (gA G 260 0 (y)))) ∧ ∀ y, 0 ≤ y → y < t → ((gA G 215 0 (s)) = p → ((gA G 217 0 (s)) ≤ (gA G 262 0 (y)) ∧ (gA G 217 0 (s)) ≤ (gF G 12 0 0) ∧ (gA G 261 0 (y)) ≤ (gA G 262 0 (y)) ∧ (gA G 261 0 (y)) ≤ (gF G 12 0 0) ∧ ((gA G 218 0 (s)) < 0 ∨ (0 ≤ (gA G 218 0 (s)) ∧ (gA G 217 0 (s)) ≤ (gA G 218 0 (s)) ∧ (gA G 261 0 (y)) ≤ (gA G 218 0 (s))))) → (gA G 216 0 (s)) = (gA G 260 0 (y))))) with q | q; exact absurd (hw.trans q) h149; exact hw.trans q
                            have hA := b2i_eq1.mp (hw.symm.trans hv1)
                            refine pw_iload r_12_couldBe_152 rfl ?_
                            refine pw_if_eq r_12_couldBe_154 (fun h154 => ?_) (fun h154 => ?_)
                            · skip
                              refine pw_const r_12_couldBe_173 ?_
                              refine pw_goto r_12_couldBe_174 ?_
                              refine pw_istore (ls' := [some (vR 12 (0)), some (vI (p)), some (vI (1)), some (vI (s)), some (vI (z)), some (vI (t)), some (vI (gA G 262 (0) (t))), some (vI (gA G 261 (0) (t))), some (vI (1))]) r_12_couldBe_178 rfl rfl ?_
                              refine pw_iinc (b := 0) (ls' := [some (vR 12 (0)), some (vI (p)), some (vI (1)), some (vI (s)), some (vI (z)), some (vI ((t + 1))), some (vI (gA G 262 (0) (t))), some (vI (gA G 261 (0) (t))), some (vI (1))]) r_12_couldBe_179 rfl rfl (by omega) rfl ?_
                              refine pw_goto r_12_couldBe_182 ?_
                              refine pw_weakL (ls' := [some (vR 12 (0)), some (vI (p)), some (vI (1)), some (vI (s)), some (vI (z)), some (vI ((t + 1))), none, none, none]) (⟨rfl, ⟨rfl, ⟨rfl, ⟨rfl, ⟨rfl, ⟨rfl, trivial⟩⟩⟩⟩⟩⟩) ?_
                              exact ih39 ((t + 1)) (z) (1) (by omega) (hz) (by first | exact (b2i_t ⟨hA.1, all_s hA.2 (by intro _ _; omega)⟩).symm | exact (b2i_f (fun q => h149n ⟨q.1, fun y a b => q.2 y a (by omega)⟩)).symm | exact (b2i_f (fun q => by have := q.2 t (by omega) (by omega); omega)).symm) (by omega)
                            · skip
                              refine pw_aload r_12_couldBe_157 rfl ?_
                              refine pw_getR r_12_couldBe_158 fs_12_19 (by decide) ?_
                              refine pw_iload r_12_couldBe_161 rfl ?_
                              refine pw_iald r_12_couldBe_162 sh216 (by omega) (by omega) ?_
                              refine pw_aload r_12_couldBe_163 rfl ?_
                              refine pw_getR r_12_couldBe_164 fs_12_88 (by decide) ?_
                              refine pw_iload r_12_couldBe_167 rfl ?_
                              refine pw_iald r_12_couldBe_169 sh260 (by omega) (by omega) ?_
                              refine pw_icmp_ne r_12_couldBe_170 (fun h170 => ?_) (fun h170 => ?_)
                              · skip
                                refine pw_const r_12_couldBe_177 ?_
                                refine pw_istore (ls' := [some (vR 12 (0)), some (vI (p)), some (vI (0)), some (vI (s)), some (vI (z)), some (vI (t)), some (vI (gA G 262 (0) (t))), some (vI (gA G 261 (0) (t))), some (vI (1))]) r_12_couldBe_178 rfl rfl ?_
                                refine pw_iinc (b := 0) (ls' := [some (vR 12 (0)), some (vI (p)), some (vI (0)), some (vI (s)), some (vI (z)), some (vI ((t + 1))), some (vI (gA G 262 (0) (t))), some (vI (gA G 261 (0) (t))), some (vI (1))]) r_12_couldBe_179 rfl rfl (by omega) rfl ?_
                                refine pw_goto r_12_couldBe_182 ?_
                                refine pw_weakL (ls' := [some (vR 12 (0)), some (vI (p)), some (vI (0)), some (vI (s)), some (vI (z)), some (vI ((t + 1))), none, none, none]) (⟨rfl, ⟨rfl, ⟨rfl, ⟨rfl, ⟨rfl, ⟨rfl, trivial⟩⟩⟩⟩⟩⟩) ?_
                                exact ih39 ((t + 1)) (z) (0) (by omega) (hz) (by first | exact (b2i_t ⟨hA.1, all_s hA.2 (by intro _ _; omega)⟩).symm | exact (b2i_f (fun q => h149n ⟨q.1, fun y a b => q.2 y a (by omega)⟩)).symm | exact (b2i_f (fun q => by have := q.2 t (by omega) (by omega); omega)).symm) (by omega)
                              · skip
                                refine pw_const r_12_couldBe_173 ?_
                                refine pw_goto r_12_couldBe_174 ?_
                                refine pw_istore (ls' := [some (vR 12 (0)), some (vI (p)), some (vI (1)), some (vI (s)), some (vI (z)), some (vI (t)), some (vI (gA G 262 (0) (t))), some (vI (gA G 261 (0) (t))), some (vI (1))]) r_12_couldBe_178 rfl rfl ?_
                                refine pw_iinc (b := 0) (ls' := [some (vR 12 (0)), some (vI (p)), some (vI (1)), some (vI (s)), some (vI (z)), some (vI ((t + 1))), some (vI (gA G 262 (0) (t))), some (vI (gA G 261 (0) (t))), some (vI (1))]) r_12_couldBe_179 rfl rfl (by omega) rfl ?_
                                refine pw_goto r_12_couldBe_182 ?_
                                refine pw_weakL (ls' := [some (vR 12 (0)), some (vI (p)), some (vI (1)), some (vI (s)), some (vI (z)), some (vI ((t + 1))), none, none, none]) (⟨rfl, ⟨rfl, ⟨rfl, ⟨rfl, ⟨rfl, ⟨rfl, trivial⟩⟩⟩⟩⟩⟩) ?_
                                exact ih39 ((t + 1)) (z) (1) (by omega) (hz) (by first | exact (b2i_t ⟨hA.1, all_s hA.2 (by intro _ _; omega)⟩).symm | exact (b2i_f (fun q => h149n ⟨q.1, fun y a b => q.2 y a (by omega)⟩)).symm | exact (b2i_f (fun q => by have := q.2 t (by omega) (by omega); omega)).symm) (by omega)
                      · skip
                        refine pw_iload r_12_couldBe_131 rfl ?_
                        refine pw_goto r_12_couldBe_133 ?_
                        refine pw_icmp_gt r_12_couldBe_138 (fun h138 => ?_) (fun h138 => ?_)
                        · skip
                          refine pw_const r_12_couldBe_145 ?_
                          refine pw_istore (ls' := [some (vR 12 (0)), some (vI (p)), some (vI (v)), some (vI (s)), some (vI (z)), some (vI (t)), some (vI (gA G 262 (0) (t))), some (vI (gA G 261 (0) (t))), some (vI (0))]) r_12_couldBe_146 rfl rfl ?_
                          refine pw_iload r_12_couldBe_148 rfl ?_
                          refine pw_if_eq r_12_couldBe_149 (fun h149 => ?_) (fun h149 => ?_)
                          · skip
                            have h149n := b2i_eq0.mp (hw.symm.trans h149)
                            refine pw_const r_12_couldBe_177 ?_
                            refine pw_istore (ls' := [some (vR 12 (0)), some (vI (p)), some (vI (0)), some (vI (s)), some (vI (z)), some (vI (t)), some (vI (gA G 262 (0) (t))), some (vI (gA G 261 (0) (t))), some (vI (0))]) r_12_couldBe_178 rfl rfl ?_
                            refine pw_iinc (b := 0) (ls' := [some (vR 12 (0)), some (vI (p)), some (vI (0)), some (vI (s)), some (vI (z)), some (vI ((t + 1))), some (vI (gA G 262 (0) (t))), some (vI (gA G 261 (0) (t))), some (vI (0))]) r_12_couldBe_179 rfl rfl (by omega) rfl ?_
                            refine pw_goto r_12_couldBe_182 ?_
                            refine pw_weakL (ls' := [some (vR 12 (0)), some (vI (p)), some (vI (0)), some (vI (s)), some (vI (z)), some (vI ((t + 1))), none, none, none]) (⟨rfl, ⟨rfl, ⟨rfl, ⟨rfl, ⟨rfl, ⟨rfl, trivial⟩⟩⟩⟩⟩⟩) ?_
                            exact ih39 ((t + 1)) (z) (0) (by omega) (hz) (by first | exact (b2i_t ⟨hA.1, all_s hA.2 (by intro _ _; omega)⟩).symm | exact (b2i_f (fun q => h149n ⟨q.1, fun y a b => q.2 y a (by omega)⟩)).symm | exact (b2i_f (fun q => by have := q.2 t (by omega) (by omega); omega)).symm) (by omega)
                          · skip
                            have hv1 : v = 1 := by rcases b2i_01 (((∀ x, 0 ≤ x → x < s → ∀ y, 0 ≤ y → y < (gF G 12 0 91) → ((gA G 215 0 (x)) = p → ((gA G 217 0 (x)) ≤ (gA G 262 0 (y)) ∧ (gA G 217 0 (x)) ≤ (gF G 12 0 0) ∧ (gA G 261 0 (y)) ≤ (gA G 262 0 (y)) ∧ (gA G 261 0 (y)) ≤ (gF G 12 0 0) ∧ ((gA G 218 0 (x)) < 0 ∨ (0 ≤ (gA G 218 0 (x)) ∧ (gA G 217 0 (x)) ≤ (gA G 218 0 (x)) ∧ (gA G 261 0 (y)) ≤ (gA G 218 0 (x))))) → (gA G 216 0 (x)) = (gA G 260 0 (y)))) ∧ ∀ y, 0 ≤ y → y < t → ((gA G 215 0 (s)) = p → ((gA G 217 0 (s)) ≤ (gA G 262 0 (y)) ∧ (gA G 217 0 (s)) ≤ (gF G 12 0 0) ∧ (gA G 261 0 (y)) ≤ (gA G 262 0 (y)) ∧ (gA G 261 0 (y)) ≤ (gF G 12 0 0) ∧ ((gA G 218 0 (s)) < 0 ∨ (0 ≤ (gA G 218 0 (s)) ∧ (gA G 217 0 (s)) ≤ (gA G 218 0 (s)) ∧ (gA G 261 0 (y)) ≤ (gA G 218 0 (s))))) → (gA G 216 0 (s)) = (gA G 260 0 (y))))) with q | q; exact absurd (hw.trans q) h149; exact hw.trans q
                            have hA := b2i_eq1.mp (hw.symm.trans hv1)
                            refine pw_iload r_12_couldBe_152 rfl ?_
                            refine pw_if_eq r_12_couldBe_154 (fun h154 => ?_) (fun h154 => ?_)
                            · skip
                              refine pw_const r_12_couldBe_173 ?_
                              refine pw_goto r_12_couldBe_174 ?_
                              refine pw_istore (ls' := [some (vR 12 (0)), some (vI (p)), some (vI (1)), some (vI (s)), some (vI (z)), some (vI (t)), some (vI (gA G 262 (0) (t))), some (vI (gA G 261 (0) (t))), some (vI (0))]) r_12_couldBe_178 rfl rfl ?_
                              refine pw_iinc (b := 0) (ls' := [some (vR 12 (0)), some (vI (p)), some (vI (1)), some (vI (s)), some (vI (z)), some (vI ((t + 1))), some (vI (gA G 262 (0) (t))), some (vI (gA G 261 (0) (t))), some (vI (0))]) r_12_couldBe_179 rfl rfl (by omega) rfl ?_
                              refine pw_goto r_12_couldBe_182 ?_
                              refine pw_weakL (ls' := [some (vR 12 (0)), some (vI (p)), some (vI (1)), some (vI (s)), some (vI (z)), some (vI ((t + 1))), none, none, none]) (⟨rfl, ⟨rfl, ⟨rfl, ⟨rfl, ⟨rfl, ⟨rfl, trivial⟩⟩⟩⟩⟩⟩) ?_
                              exact ih39 ((t + 1)) (z) (1) (by omega) (hz) (by first | exact (b2i_t ⟨hA.1, all_s hA.2 (by intro _ _; omega)⟩).symm | exact (b2i_f (fun q => h149n ⟨q.1, fun y a b => q.2 y a (by omega)⟩)).symm | exact (b2i_f (fun q => by have := q.2 t (by omega) (by omega); omega)).symm) (by omega)
                            · skip
                              refine pw_aload r_12_couldBe_157 rfl ?_
                              refine pw_getR r_12_couldBe_158 fs_12_19 (by decide) ?_
                              refine pw_iload r_12_couldBe_161 rfl ?_
                              refine pw_iald r_12_couldBe_162 sh216 (by omega) (by omega) ?_
                              refine pw_aload r_12_couldBe_163 rfl ?_
                              refine pw_getR r_12_couldBe_164 fs_12_88 (by decide) ?_
                              refine pw_iload r_12_couldBe_167 rfl ?_
                              refine pw_iald r_12_couldBe_169 sh260 (by omega) (by omega) ?_
                              refine pw_icmp_ne r_12_couldBe_170 (fun h170 => ?_) (fun h170 => ?_)
                              · skip
                                refine pw_const r_12_couldBe_177 ?_
                                refine pw_istore (ls' := [some (vR 12 (0)), some (vI (p)), some (vI (0)), some (vI (s)), some (vI (z)), some (vI (t)), some (vI (gA G 262 (0) (t))), some (vI (gA G 261 (0) (t))), some (vI (0))]) r_12_couldBe_178 rfl rfl ?_
                                refine pw_iinc (b := 0) (ls' := [some (vR 12 (0)), some (vI (p)), some (vI (0)), some (vI (s)), some (vI (z)), some (vI ((t + 1))), some (vI (gA G 262 (0) (t))), some (vI (gA G 261 (0) (t))), some (vI (0))]) r_12_couldBe_179 rfl rfl (by omega) rfl ?_
                                refine pw_goto r_12_couldBe_182 ?_
                                refine pw_weakL (ls' := [some (vR 12 (0)), some (vI (p)), some (vI (0)), some (vI (s)), some (vI (z)), some (vI ((t + 1))), none, none, none]) (⟨rfl, ⟨rfl, ⟨rfl, ⟨rfl, ⟨rfl, ⟨rfl, trivial⟩⟩⟩⟩⟩⟩) ?_
                                exact ih39 ((t + 1)) (z) (0) (by omega) (hz) (by first | exact (b2i_t ⟨hA.1, all_s hA.2 (by intro _ _; omega)⟩).symm | exact (b2i_f (fun q => h149n ⟨q.1, fun y a b => q.2 y a (by omega)⟩)).symm | exact (b2i_f (fun q => by have := q.2 t (by omega) (by omega); omega)).symm) (by omega)
                              · skip
                                refine pw_const r_12_couldBe_173 ?_
                                refine pw_goto r_12_couldBe_174 ?_
                                refine pw_istore (ls' := [some (vR 12 (0)), some (vI (p)), some (vI (1)), some (vI (s)), some (vI (z)), some (vI (t)), some (vI (gA G 262 (0) (t))), some (vI (gA G 261 (0) (t))), some (vI (0))]) r_12_couldBe_178 rfl rfl ?_
                                refine pw_iinc (b := 0) (ls' := [some (vR 12 (0)), some (vI (p)), some (vI (1)), some (vI (s)), some (vI (z)), some (vI ((t + 1))), some (vI (gA G 262 (0) (t))), some (vI (gA G 261 (0) (t))), some (vI (0))]) r_12_couldBe_179 rfl rfl (by omega) rfl ?_
                                refine pw_goto r_12_couldBe_182 ?_
                                refine pw_weakL (ls' := [some (vR 12 (0)), some (vI (p)), some (vI (1)), some (vI (s)), some (vI (z)), some (vI ((t + 1))), none, none, none]) (⟨rfl, ⟨rfl, ⟨rfl, ⟨rfl, ⟨rfl, ⟨rfl, trivial⟩⟩⟩⟩⟩⟩) ?_
                                exact ih39 ((t + 1)) (z) (1) (by omega) (hz) (by first | exact (b2i_t ⟨hA.1, all_s hA.2 (by intro _ _; omega)⟩).symm | exact (b2i_f (fun q => h149n ⟨q.1, fun y a b => q.2 y a (by omega)⟩)).symm | exact (b2i_f (fun q => by have := q.2 t (by omega) (by omega); omega)).symm) (by omega)
                        · skip
                          refine pw_const r_12_couldBe_141 ?_
                          refine pw_goto r_12_couldBe_142 ?_
                          refine pw_istore (ls' := [some (vR 12 (0)), some (vI (p)), some (vI (v)), some (vI (s)), some (vI (z)), some (vI (t)), some (vI (gA G 262 (0) (t))), some (vI (gA G 261 (0) (t))), some (vI (1))]) r_12_couldBe_146 rfl rfl ?_
                          refine pw_iload r_12_couldBe_148 rfl ?_
                          refine pw_if_eq r_12_couldBe_149 (fun h149 => ?_) (fun h149 => ?_)
                          · skip
                            have h149n := b2i_eq0.mp (hw.symm.trans h149)
                            refine pw_const r_12_couldBe_177 ?_
                            refine pw_istore (ls' := [some (vR 12 (0)), some (vI (p)), some (vI (0)), some (vI (s)), some (vI (z)), some (vI (t)), some (vI (gA G 262 (0) (t))), some (vI (gA G 261 (0) (t))), some (vI (1))]) r_12_couldBe_178 rfl rfl ?_
                            refine pw_iinc (b := 0) (ls' := [some (vR 12 (0)), some (vI (p)), some (vI (0)), some (vI (s)), some (vI (z)), some (vI ((t + 1))), some (vI (gA G 262 (0) (t))), some (vI (gA G 261 (0) (t))), some (vI (1))]) r_12_couldBe_179 rfl rfl (by omega) rfl ?_
                            refine pw_goto r_12_couldBe_182 ?_
                            refine pw_weakL (ls' := [some (vR 12 (0)), some (vI (p)), some (vI (0)), some (vI (s)), some (vI (z)), some (vI ((t + 1))), none, none, none]) (⟨rfl, ⟨rfl, ⟨rfl, ⟨rfl, ⟨rfl, ⟨rfl, trivial⟩⟩⟩⟩⟩⟩) ?_
                            exact ih39 ((t + 1)) (z) (0) (by omega) (hz) (by first | exact (b2i_t ⟨hA.1, all_s hA.2 (by intro _ _; omega)⟩).symm | exact (b2i_f (fun q => h149n ⟨q.1, fun y a b => q.2 y a (by omega)⟩)).symm | exact (b2i_f (fun q => by have := q.2 t (by omega) (by omega); omega)).symm) (by omega)
                          · skip
                            have hv1 : v = 1 := by rcases b2i_01 (((∀ x, 0 ≤ x → x < s → ∀ y, 0 ≤ y → y < (gF G 12 0 91) → ((gA G 215 0 (x)) = p → ((gA G 217 0 (x)) ≤ (gA G 262 0 (y)) ∧ (gA G 217 0 (x)) ≤ (gF G 12 0 0) ∧ (gA G 261 0 (y)) ≤ (gA G 262 0 (y)) ∧ (gA G 261 0 (y)) ≤ (gF G 12 0 0) ∧ ((gA G 218 0 (x)) < 0 ∨ (0 ≤ (gA G 218 0 (x)) ∧ (gA G 217 0 (x)) ≤ (gA G 218 0 (x)) ∧ (gA G 261 0 (y)) ≤ (gA G 218 0 (x))))) → (gA G 216 0 (x)) = (gA G 260 0 (y)))) ∧ ∀ y, 0 ≤ y → y < t → ((gA G 215 0 (s)) = p → ((gA G 217 0 (s)) ≤ (gA G 262 0 (y)) ∧ (gA G 217 0 (s)) ≤ (gF G 12 0 0) ∧ (gA G 261 0 (y)) ≤ (gA G 262 0 (y)) ∧ (gA G 261 0 (y)) ≤ (gF G 12 0 0) ∧ ((gA G 218 0 (s)) < 0 ∨ (0 ≤ (gA G 218 0 (s)) ∧ (gA G 217 0 (s)) ≤ (gA G 218 0 (s)) ∧ (gA G 261 0 (y)) ≤ (gA G 218 0 (s))))) → (gA G 216 0 (s)) = (gA G 260 0 (y))))) with q | q; exact absurd (hw.trans q) h149; exact hw.trans q
                            have hA := b2i_eq1.mp (hw.symm.trans hv1)
                            refine pw_iload r_12_couldBe_152 rfl ?_
                            refine pw_if_eq r_12_couldBe_154 (fun h154 => ?_) (fun h154 => ?_)
                            · skip
                              refine pw_const r_12_couldBe_173 ?_
                              refine pw_goto r_12_couldBe_174 ?_
                              refine pw_istore (ls' := [some (vR 12 (0)), some (vI (p)), some (vI (1)), some (vI (s)), some (vI (z)), some (vI (t)), some (vI (gA G 262 (0) (t))), some (vI (gA G 261 (0) (t))), some (vI (1))]) r_12_couldBe_178 rfl rfl ?_
                              refine pw_iinc (b := 0) (ls' := [some (vR 12 (0)), some (vI (p)), some (vI (1)), some (vI (s)), some (vI (z)), some (vI ((t + 1))), some (vI (gA G 262 (0) (t))), some (vI (gA G 261 (0) (t))), some (vI (1))]) r_12_couldBe_179 rfl rfl (by omega) rfl ?_
                              refine pw_goto r_12_couldBe_182 ?_
                              refine pw_weakL (ls' := [some (vR 12 (0)), some (vI (p)), some (vI (1)), some (vI (s)), some (vI (z)), some (vI ((t + 1))), none, none, none]) (⟨rfl, ⟨rfl, ⟨rfl, ⟨rfl, ⟨rfl, ⟨rfl, trivial⟩⟩⟩⟩⟩⟩) ?_
                              exact ih39 ((t + 1)) (z) (1) (by omega) (hz) (by first | exact (b2i_t ⟨hA.1, all_s hA.2 (by intro _ _; omega)⟩).symm | exact (b2i_f (fun q => h149n ⟨q.1, fun y a b => q.2 y a (by omega)⟩)).symm | exact (b2i_f (fun q => by have := q.2 t (by omega) (by omega); omega)).symm) (by omega)
                            · skip
                              refine pw_aload r_12_couldBe_157 rfl ?_
                              refine pw_getR r_12_couldBe_158 fs_12_19 (by decide) ?_
                              refine pw_iload r_12_couldBe_161 rfl ?_
                              refine pw_iald r_12_couldBe_162 sh216 (by omega) (by omega) ?_
                              refine pw_aload r_12_couldBe_163 rfl ?_
                              refine pw_getR r_12_couldBe_164 fs_12_88 (by decide) ?_
                              refine pw_iload r_12_couldBe_167 rfl ?_
                              refine pw_iald r_12_couldBe_169 sh260 (by omega) (by omega) ?_
                              refine pw_icmp_ne r_12_couldBe_170 (fun h170 => ?_) (fun h170 => ?_)
                              · skip
                                refine pw_const r_12_couldBe_177 ?_
                                refine pw_istore (ls' := [some (vR 12 (0)), some (vI (p)), some (vI (0)), some (vI (s)), some (vI (z)), some (vI (t)), some (vI (gA G 262 (0) (t))), some (vI (gA G 261 (0) (t))), some (vI (1))]) r_12_couldBe_178 rfl rfl ?_
                                refine pw_iinc (b := 0) (ls' := [some (vR 12 (0)), some (vI (p)), some (vI (0)), some (vI (s)), some (vI (z)), some (vI ((t + 1))), some (vI (gA G 262 (0) (t))), some (vI (gA G 261 (0) (t))), some (vI (1))]) r_12_couldBe_179 rfl rfl (by omega) rfl ?_
                                refine pw_goto r_12_couldBe_182 ?_
                                refine pw_weakL (ls' := [some (vR 12 (0)), some (vI (p)), some (vI (0)), some (vI (s)), some (vI (z)), some (vI ((t + 1))), none, none, none]) (⟨rfl, ⟨rfl, ⟨rfl, ⟨rfl, ⟨rfl, ⟨rfl, trivial⟩⟩⟩⟩⟩⟩) ?_
                                exact ih39 ((t + 1)) (z) (0) (by omega) (hz) (by first | exact (b2i_t ⟨hA.1, all_s hA.2 (by intro _ _; omega)⟩).symm | exact (b2i_f (fun q => h149n ⟨q.1, fun y a b => q.2 y a (by omega)⟩)).symm | exact (b2i_f (fun q => by have := q.2 t (by omega) (by omega); omega)).symm) (by omega)
                              · skip
                                refine pw_const r_12_couldBe_173 ?_
                                refine pw_goto r_12_couldBe_174 ?_
                                refine pw_istore (ls' := [some (vR 12 (0)), some (vI (p)), some (vI (1)), some (vI (s)), some (vI (z)), some (vI (t)), some (vI (gA G 262 (0) (t))), some (vI (gA G 261 (0) (t))), some (vI (1))]) r_12_couldBe_178 rfl rfl ?_
                                refine pw_iinc (b := 0) (ls' := [some (vR 12 (0)), some (vI (p)), some (vI (1)), some (vI (s)), some (vI (z)), some (vI ((t + 1))), some (vI (gA G 262 (0) (t))), some (vI (gA G 261 (0) (t))), some (vI (1))]) r_12_couldBe_179 rfl rfl (by omega) rfl ?_
                                refine pw_goto r_12_couldBe_182 ?_
                                refine pw_weakL (ls' := [some (vR 12 (0)), some (vI (p)), some (vI (1)), some (vI (s)), some (vI (z)), some (vI ((t + 1))), none, none, none]) (⟨rfl, ⟨rfl, ⟨rfl, ⟨rfl, ⟨rfl, ⟨rfl, trivial⟩⟩⟩⟩⟩⟩) ?_
                                exact ih39 ((t + 1)) (z) (1) (by omega) (hz) (by first | exact (b2i_t ⟨hA.1, all_s hA.2 (by intro _ _; omega)⟩).symm | exact (b2i_f (fun q => h149n ⟨q.1, fun y a b => q.2 y a (by omega)⟩)).symm | exact (b2i_f (fun q => by have := q.2 t (by omega) (by omega); omega)).symm) (by omega)
                    · skip
                      refine pw_aload r_12_couldBe_104 rfl ?_
                      refine pw_getR r_12_couldBe_105 fs_12_20 (by decide) ?_
                      refine pw_iload r_12_couldBe_108 rfl ?_
                      refine pw_iald r_12_couldBe_109 sh217 (by omega) (by omega) ?_
                      refine pw_goto r_12_couldBe_110 ?_
                      refine pw_istore (ls' := [some (vR 12 (0)), some (vI (p)), some (vI (v)), some (vI (s)), some (vI (z)), some (vI (t)), some (vI (gA G 262 (0) (t))), some (vI (gA G 217 (0) (s))), none]) r_12_couldBe_120 rfl rfl ?_
                      refine pw_iload r_12_couldBe_122 rfl ?_
                      refine pw_iload r_12_couldBe_124 rfl ?_
                      refine pw_iload r_12_couldBe_126 rfl ?_
                      refine pw_icmp_ge r_12_couldBe_128 (fun h128 => ?_) (fun h128 => ?_)
                      · skip
                        refine pw_iload r_12_couldBe_136 rfl ?_
                        refine pw_icmp_gt r_12_couldBe_138 (fun h138 => ?_) (fun h138 => ?_)
                        · skip
                          refine pw_const r_12_couldBe_145 ?_
                          refine pw_istore (ls' := [some (vR 12 (0)), some (vI (p)), some (vI (v)), some (vI (s)), some (vI (z)), some (vI (t)), some (vI (gA G 262 (0) (t))), some (vI (gA G 217 (0) (s))), some (vI (0))]) r_12_couldBe_146 rfl rfl ?_
                          refine pw_iload r_12_couldBe_148 rfl ?_
                          refine pw_if_eq r_12_couldBe_149 (fun h149 => ?_) (fun h149 => ?_)
                          · skip
                            have h149n := b2i_eq0.mp (hw.symm.trans h149)
                            refine pw_const r_12_couldBe_177 ?_
                            refine pw_istore (ls' := [some (vR 12 (0)), some (vI (p)), some (vI (0)), some (vI (s)), some (vI (z)), some (vI (t)), some (vI (gA G 262 (0) (t))), some (vI (gA G 217 (0) (s))), some (vI (0))]) r_12_couldBe_178 rfl rfl ?_
                            refine pw_iinc (b := 0) (ls' := [some (vR 12 (0)), some (vI (p)), some (vI (0)), some (vI (s)), some (vI (z)), some (vI ((t + 1))), some (vI (gA G 262 (0) (t))), some (vI (gA G 217 (0) (s))), some (vI (0))]) r_12_couldBe_179 rfl rfl (by omega) rfl ?_
                            refine pw_goto r_12_couldBe_182 ?_
                            refine pw_weakL (ls' := [some (vR 12 (0)), some (vI (p)), some (vI (0)), some (vI (s)), some (vI (z)), some (vI ((t + 1))), none, none, none]) (⟨rfl, ⟨rfl, ⟨rfl, ⟨rfl, ⟨rfl, ⟨rfl, trivial⟩⟩⟩⟩⟩⟩) ?_
                            exact ih39 ((t + 1)) (z) (0) (by omega) (hz) (by first | exact (b2i_t ⟨hA.1, all_s hA.2 (by intro _ _; omega)⟩).symm | exact (b2i_f (fun q => h149n ⟨q.1, fun y a b => q.2 y a (by omega)⟩)).symm | exact (b2i_f (fun q => by have := q.2 t (by omega) (by omega); omega)).symm) (by omega)
                          · skip
                            have hv1 : v = 1 := by rcases b2i_01 (((∀ x, 0 ≤ x → x < s → ∀ y, 0 ≤ y → y < (gF G 12 0 91) → ((gA G 215 0 (x)) = p → ((gA G 217 0 (x)) ≤ (gA G 262 0 (y)) ∧ (gA G 217 0 (x)) ≤ (gF G 12 0 0) ∧ (gA G 261 0 (y)) ≤ (gA G 262 0 (y)) ∧ (gA G 261 0 (y)) ≤ (gF G 12 0 0) ∧ ((gA G 218 0 (x)) < 0 ∨ (0 ≤ (gA G 218 0 (x)) ∧ (gA G 217 0 (x)) ≤ (gA G 218 0 (x)) ∧ (gA G 261 0 (y)) ≤ (gA G 218 0 (x))))) → (gA G 216 0 (x)) = (gA G 260 0 (y)))) ∧ ∀ y, 0 ≤ y → y < t → ((gA G 215 0 (s)) = p → ((gA G 217 0 (s)) ≤ (gA G 262 0 (y)) ∧ (gA G 217 0 (s)) ≤ (gF G 12 0 0) ∧ (gA G 261 0 (y)) ≤ (gA G 262 0 (y)) ∧ (gA G 261 0 (y)) ≤ (gF G 12 0 0) ∧ ((gA G 218 0 (s)) < 0 ∨ (0 ≤ (gA G 218 0 (s)) ∧ (gA G 217 0 (s)) ≤ (gA G 218 0 (s)) ∧ (gA G 261 0 (y)) ≤ (gA G 218 0 (s))))) → (gA G 216 0 (s)) = (gA G 260 0 (y))))) with q | q; exact absurd (hw.trans q) h149; exact hw.trans q
                            have hA := b2i_eq1.mp (hw.symm.trans hv1)
                            refine pw_iload r_12_couldBe_152 rfl ?_
                            refine pw_if_eq r_12_couldBe_154 (fun h154 => ?_) (fun h154 => ?_)
                            · skip
                              refine pw_const r_12_couldBe_173 ?_
                              refine pw_goto r_12_couldBe_174 ?_
                              refine pw_istore (ls' := [some (vR 12 (0)), some (vI (p)), some (vI (1)), some (vI (s)), some (vI (z)), some (vI (t)), some (vI (gA G 262 (0) (t))), some (vI (gA G 217 (0) (s))), some (vI (0))]) r_12_couldBe_178 rfl rfl ?_
                              refine pw_iinc (b := 0) (ls' := [some (vR 12 (0)), some (vI (p)), some (vI (1)), some (vI (s)), some (vI (z)), some (vI ((t + 1))), some (vI (gA G 262 (0) (t))), some (vI (gA G 217 (0) (s))), some (vI (0))]) r_12_couldBe_179 rfl rfl (by omega) rfl ?_
                              refine pw_goto r_12_couldBe_182 ?_
                              refine pw_weakL (ls' := [some (vR 12 (0)), some (vI (p)), some (vI (1)), some (vI (s)), some (vI (z)), some (vI ((t + 1))), none, none, none]) (⟨rfl, ⟨rfl, ⟨rfl, ⟨rfl, ⟨rfl, ⟨rfl, trivial⟩⟩⟩⟩⟩⟩) ?_
                              exact ih39 ((t + 1)) (z) (1) (by omega) (hz) (by first | exact (b2i_t ⟨hA.1, all_s hA.2 (by intro _ _; omega)⟩).symm | exact (b2i_f (fun q => h149n ⟨q.1, fun y a b => q.2 y a (by omega)⟩)).symm | exact (b2i_f (fun q => by have := q.2 t (by omega) (by omega); omega)).symm) (by omega)
                            · skip
                              refine pw_aload r_12_couldBe_157 rfl ?_
                              refine pw_getR r_12_couldBe_158 fs_12_19 (by decide) ?_
                              refine pw_iload r_12_couldBe_161 rfl ?_
                              refine pw_iald r_12_couldBe_162 sh216 (by omega) (by omega) ?_
                              refine pw_aload r_12_couldBe_163 rfl ?_
                              refine pw_getR r_12_couldBe_164 fs_12_88 (by decide) ?_
                              refine pw_iload r_12_couldBe_167 rfl ?_
                              refine pw_iald r_12_couldBe_169 sh260 (by omega) (by omega) ?_
                              refine pw_icmp_ne r_12_couldBe_170 (fun h170 => ?_) (fun h170 => ?_)
                              · skip
                                refine pw_const r_12_couldBe_177 ?_
                                refine pw_istore (ls' := [some (vR 12 (0)), some (vI (p)), some (vI (0)), some (vI (s)), some (vI (z)), some (vI (t)), some (vI (gA G 262 (0) (t))), some (vI (gA G 217 (0) (s))), some (vI (0))]) r_12_couldBe_178 rfl rfl ?_
                                refine pw_iinc (b := 0) (ls' := [some (vR 12 (0)), some (vI (p)), some (vI (0)), some (vI (s)), some (vI (z)), some (vI ((t + 1))), some (vI (gA G 262 (0) (t))), some (vI (gA G 217 (0) (s))), some (vI (0))]) r_12_couldBe_179 rfl rfl (by omega) rfl ?_
                                refine pw_goto r_12_couldBe_182 ?_
                                refine pw_weakL (ls' := [some (vR 12 (0)), some (vI (p)), some (vI (0)), some (vI (s)), some (vI (z)), some (vI ((t + 1))), none, none, none]) (⟨rfl, ⟨rfl, ⟨rfl, ⟨rfl, ⟨rfl, ⟨rfl, trivial⟩⟩⟩⟩⟩⟩) ?_
                                exact ih39 ((t + 1)) (z) (0) (by omega) (hz) (by first | exact (b2i_t ⟨hA.1, all_s hA.2 (by intro _ _; omega)⟩).symm | exact (b2i_f (fun q => h149n ⟨q.1, fun y a b => q.2 y a (by omega)⟩)).symm | exact (b2i_f (fun q => by have := q.2 t (by omega) (by omega); omega)).symm) (by omega)
                              · skip
                                refine pw_const r_12_couldBe_173 ?_
                                refine pw_goto r_12_couldBe_174 ?_
                                refine pw_istore (ls' := [some (vR 12 (0)), some (vI (p)), some (vI (1)), some (vI (s)), some (vI (z)), some (vI (t)), some (vI (gA G 262 (0) (t))), some (vI (gA G 217 (0) (s))), some (vI (0))]) r_12_couldBe_178 rfl rfl ?_
                                refine pw_iinc (b := 0) (ls' := [some (vR 12 (0)), some (vI (p)), some (vI (1)), some (vI (s)), some (vI (z)), some (vI ((t + 1))), some (vI (gA G 262 (0) (t))), some (vI (gA G 217 (0) (s))), some (vI (0))]) r_12_couldBe_179 rfl rfl (by omega) rfl ?_
                                refine pw_goto r_12_couldBe_182 ?_
                                refine pw_weakL (ls' := [some (vR 12 (0)), some (vI (p)), some (vI (1)), some (vI (s)), some (vI (z)), some (vI ((t + 1))), none, none, none]) (⟨rfl, ⟨rfl, ⟨rfl, ⟨rfl, ⟨rfl, ⟨rfl, trivial⟩⟩⟩⟩⟩⟩) ?_
                                exact ih39 ((t + 1)) (z) (1) (by omega) (hz) (by first | exact (b2i_t ⟨hA.1, all_s hA.2 (by intro _ _; omega)⟩).symm | exact (b2i_f (fun q => h149n ⟨q.1, fun y a b => q.2 y a (by omega)⟩)).symm | exact (b2i_f (fun q => by have := q.2 t (by omega) (by omega); omega)).symm) (by omega)
                        · skip
                          refine pw_const r_12_couldBe_141 ?_
                          refine pw_goto r_12_couldBe_142 ?_
                          refine pw_istore (ls' := [some (vR 12 (0)), some (vI (p)), some (vI (v)), some (vI (s)), some (vI (z)), some (vI (t)), some (vI (gA G 262 (0) (t))), some (vI (gA G 217 (0) (s))), some (vI (1))]) r_12_couldBe_146 rfl rfl ?_
                          refine pw_iload r_12_couldBe_148 rfl ?_
                          refine pw_if_eq r_12_couldBe_149 (fun h149 => ?_) (fun h149 => ?_)
                          · skip
                            have h149n := b2i_eq0.mp (hw.symm.trans h149)
                            refine pw_const r_12_couldBe_177 ?_
                            refine pw_istore (ls' := [some (vR 12 (0)), some (vI (p)), some (vI (0)), some (vI (s)), some (vI (z)), some (vI (t)), some (vI (gA G 262 (0) (t))), some (vI (gA G 217 (0) (s))), some (vI (1))]) r_12_couldBe_178 rfl rfl ?_
                            refine pw_iinc (b := 0) (ls' := [some (vR 12 (0)), some (vI (p)), some (vI (0)), some (vI (s)), some (vI (z)), some (vI ((t + 1))), some (vI (gA G 262 (0) (t))), some (vI (gA G 217 (0) (s))), some (vI (1))]) r_12_couldBe_179 rfl rfl (by omega) rfl ?_
                            refine pw_goto r_12_couldBe_182 ?_
                            refine pw_weakL (ls' := [some (vR 12 (0)), some (vI (p)), some (vI (0)), some (vI (s)), some (vI (z)), some (vI ((t + 1))), none, none, none]) (⟨rfl, ⟨rfl, ⟨rfl, ⟨rfl, ⟨rfl, ⟨rfl, trivial⟩⟩⟩⟩⟩⟩) ?_
                            exact ih39 ((t + 1)) (z) (0) (by omega) (hz) (by first | exact (b2i_t ⟨hA.1, all_s hA.2 (by intro _ _; omega)⟩).symm | exact (b2i_f (fun q => h149n ⟨q.1, fun y a b => q.2 y a (by omega)⟩)).symm | exact (b2i_f (fun q => by have := q.2 t (by omega) (by omega); omega)).symm) (by omega)
                          · skip
                            have hv1 : v = 1 := by rcases b2i_01 (((∀ x, 0 ≤ x → x < s → ∀ y, 0 ≤ y → y < (gF G 12 0 91) → ((gA G 215 0 (x)) = p → ((gA G 217 0 (x)) ≤ (gA G 262 0 (y)) ∧ (gA G 217 0 (x)) ≤ (gF G 12 0 0) ∧ (gA G 261 0 (y)) ≤ (gA G 262 0 (y)) ∧ (gA G 261 0 (y)) ≤ (gF G 12 0 0) ∧ ((gA G 218 0 (x)) < 0 ∨ (0 ≤ (gA G 218 0 (x)) ∧ (gA G 217 0 (x)) ≤ (gA G 218 0 (x)) ∧ (gA G 261 0 (y)) ≤ (gA G 218 0 (x))))) → (gA G 216 0 (x)) = (gA G 260 0 (y)))) ∧ ∀ y, 0 ≤ y → y < t → ((gA G 215 0 (s)) = p → ((gA G 217 0 (s)) ≤ (gA G 262 0 (y)) ∧ (gA G 217 0 (s)) ≤ (gF G 12 0 0) ∧ (gA G 261 0 (y)) ≤ (gA G 262 0 (y)) ∧ (gA G 261 0 (y)) ≤ (gF G 12 0 0) ∧ ((gA G 218 0 (s)) < 0 ∨ (0 ≤ (gA G 218 0 (s)) ∧ (gA G 217 0 (s)) ≤ (gA G 218 0 (s)) ∧ (gA G 261 0 (y)) ≤ (gA G 218 0 (s))))) → (gA G 216 0 (s)) = (gA G 260 0 (y))))) with q | q; exact absurd (hw.trans q) h149; exact hw.trans q
                            have hA := b2i_eq1.mp (hw.symm.trans hv1)
                            refine pw_iload r_12_couldBe_152 rfl ?_
                            refine pw_if_eq r_12_couldBe_154 (fun h154 => ?_) (fun h154 => ?_)
                            · skip
                              refine pw_const r_12_couldBe_173 ?_
                              refine pw_goto r_12_couldBe_174 ?_
                              refine pw_istore (ls' := [some (vR 12 (0)), some (vI (p)), some (vI (1)), some (vI (s)), some (vI (z)), some (vI (t)), some (vI (gA G 262 (0) (t))), some (vI (gA G 217 (0) (s))), some (vI (1))]) r_12_couldBe_178 rfl rfl ?_
                              refine pw_iinc (b := 0) (ls' := [some (vR 12 (0)), some (vI (p)), some (vI (1)), some (vI (s)), some (vI (z)), some (vI ((t + 1))), some (vI (gA G 262 (0) (t))), some (vI (gA G 217 (0) (s))), some (vI (1))]) r_12_couldBe_179 rfl rfl (by omega) rfl ?_
                              refine pw_goto r_12_couldBe_182 ?_
                              refine pw_weakL (ls' := [some (vR 12 (0)), some (vI (p)), some (vI (1)), some (vI (s)), some (vI (z)), some (vI ((t + 1))), none, none, none]) (⟨rfl, ⟨rfl, ⟨rfl, ⟨rfl, ⟨rfl, ⟨rfl, trivial⟩⟩⟩⟩⟩⟩) ?_
                              exact ih39 ((t + 1)) (z) (1) (by omega) (hz) (by first | exact (b2i_t ⟨hA.1, all_s hA.2 (by intro _ _; omega)⟩).symm | exact (b2i_f (fun q => h149n ⟨q.1, fun y a b => q.2 y a (by omega)⟩)).symm | exact (b2i_f (fun q => by have := q.2 t (by omega) (by omega); omega)).symm) (by omega)
                            · skip
                              refine pw_aload r_12_couldBe_157 rfl ?_
                              refine pw_getR r_12_couldBe_158 fs_12_19 (by decide) ?_
                              refine pw_iload r_12_couldBe_161 rfl ?_
                              refine pw_iald r_12_couldBe_162 sh216 (by omega) (by omega) ?_
                              refine pw_aload r_12_couldBe_163 rfl ?_
                              refine pw_getR r_12_couldBe_164 fs_12_88 (by decide) ?_
                              refine pw_iload r_12_couldBe_167 rfl ?_
                              refine pw_iald r_12_couldBe_169 sh260 (by omega) (by omega) ?_
                              refine pw_icmp_ne r_12_couldBe_170 (fun h170 => ?_) (fun h170 => ?_)
                              · skip
                                refine pw_const r_12_couldBe_177 ?_
                                refine pw_istore (ls' := [some (vR 12 (0)), some (vI (p)), some (vI (0)), some (vI (s)), some (vI (z)), some (vI (t)), some (vI (gA G 262 (0) (t))), some (vI (gA G 217 (0) (s))), some (vI (1))]) r_12_couldBe_178 rfl rfl ?_
                                refine pw_iinc (b := 0) (ls' := [some (vR 12 (0)), some (vI (p)), some (vI (0)), some (vI (s)), some (vI (z)), some (vI ((t + 1))), some (vI (gA G 262 (0) (t))), some (vI (gA G 217 (0) (s))), some (vI (1))]) r_12_couldBe_179 rfl rfl (by omega) rfl ?_
                                refine pw_goto r_12_couldBe_182 ?_
                                refine pw_weakL (ls' := [some (vR 12 (0)), some (vI (p)), some (vI (0)), some (vI (s)), some (vI (z)), some (vI ((t + 1))), none, none, none]) (⟨rfl, ⟨rfl, ⟨rfl, ⟨rfl, ⟨rfl, ⟨rfl, trivial⟩⟩⟩⟩⟩⟩) ?_
                                exact ih39 ((t + 1)) (z) (0) (by omega) (hz) (by first | exact (b2i_t ⟨hA.1, all_s hA.2 (by intro _ _; omega)⟩).symm | exact (b2i_f (fun q => h149n ⟨q.1, fun y a b => q.2 y a (by omega)⟩)).symm | exact (b2i_f (fun q => by have := q.2 t (by omega) (by omega); omega)).symm) (by omega)
                              · skip
                                refine pw_const r_12_couldBe_173 ?_
                                refine pw_goto r_12_couldBe_174 ?_
                                refine pw_istore (ls' := [some (vR 12 (0)), some (vI (p)), some (vI (1)), some (vI (s)), some (vI (z)), some (vI (t)), some (vI (gA G 262 (0) (t))), some (vI (gA G 217 (0) (s))), some (vI (1))]) r_12_couldBe_178 rfl rfl ?_
                                refine pw_iinc (b := 0) (ls' := [some (vR 12 (0)), some (vI (p)), some (vI (1)), some (vI (s)), some (vI (z)), some (vI ((t + 1))), some (vI (gA G 262 (0) (t))), some (vI (gA G 217 (0) (s))), some (vI (1))]) r_12_couldBe_179 rfl rfl (by omega) rfl ?_
                                refine pw_goto r_12_couldBe_182 ?_
                                refine pw_weakL (ls' := [some (vR 12 (0)), some (vI (p)), some (vI (1)), some (vI (s)), some (vI (z)), some (vI ((t + 1))), none, none, none]) (⟨rfl, ⟨rfl, ⟨rfl, ⟨rfl, ⟨rfl, ⟨rfl, trivial⟩⟩⟩⟩⟩⟩) ?_
                                exact ih39 ((t + 1)) (z) (1) (by omega) (hz) (by first | exact (b2i_t ⟨hA.1, all_s hA.2 (by intro _ _; omega)⟩).symm | exact (b2i_f (fun q => h149n ⟨q.1, fun y a b => q.2 y a (by omega)⟩)).symm | exact (b2i_f (fun q => by have := q.2 t (by omega) (by omega); omega)).symm) (by omega)
                      · skip
                        refine pw_iload r_12_couldBe_131 rfl ?_
                        refine pw_goto r_12_couldBe_133 ?_
                        refine pw_icmp_gt r_12_couldBe_138 (fun h138 => ?_) (fun h138 => ?_)
                        · skip
                          refine pw_const r_12_couldBe_145 ?_
                          refine pw_istore (ls' := [some (vR 12 (0)), some (vI (p)), some (vI (v)), some (vI (s)), some (vI (z)), some (vI (t)), some (vI (gA G 262 (0) (t))), some (vI (gA G 217 (0) (s))), some (vI (0))]) r_12_couldBe_146 rfl rfl ?_
                          refine pw_iload r_12_couldBe_148 rfl ?_
                          refine pw_if_eq r_12_couldBe_149 (fun h149 => ?_) (fun h149 => ?_)
                          · skip
                            have h149n := b2i_eq0.mp (hw.symm.trans h149)
                            refine pw_const r_12_couldBe_177 ?_
                            refine pw_istore (ls' := [some (vR 12 (0)), some (vI (p)), some (vI (0)), some (vI (s)), some (vI (z)), some (vI (t)), some (vI (gA G 262 (0) (t))), some (vI (gA G 217 (0) (s))), some (vI (0))]) r_12_couldBe_178 rfl rfl ?_
                            refine pw_iinc (b := 0) (ls' := [some (vR 12 (0)), some (vI (p)), some (vI (0)), some (vI (s)), some (vI (z)), some (vI ((t + 1))), some (vI (gA G 262 (0) (t))), some (vI (gA G 217 (0) (s))), some (vI (0))]) r_12_couldBe_179 rfl rfl (by omega) rfl ?_
                            refine pw_goto r_12_couldBe_182 ?_
                            refine pw_weakL (ls' := [some (vR 12 (0)), some (vI (p)), some (vI (0)), some (vI (s)), some (vI (z)), some (vI ((t + 1))), none, none, none]) (⟨rfl, ⟨rfl, ⟨rfl, ⟨rfl, ⟨rfl, ⟨rfl, trivial⟩⟩⟩⟩⟩⟩) ?_
                            exact ih39 ((t + 1)) (z) (0) (by omega) (hz) (by first | exact (b2i_t ⟨hA.1, all_s hA.2 (by intro _ _; omega)⟩).symm | exact (b2i_f (fun q => h149n ⟨q.1, fun y a b => q.2 y a (by omega)⟩)).symm | exact (b2i_f (fun q => by have := q.2 t (by omega) (by omega); omega)).symm) (by omega)
                          · skip
                            have hv1 : v = 1 := by rcases b2i_01 (((∀ x, 0 ≤ x → x < s → ∀ y, 0 ≤ y → y < (gF G 12 0 91) → ((gA G 215 0 (x)) = p → ((gA G 217 0 (x)) ≤ (gA G 262 0 (y)) ∧ (gA G 217 0 (x)) ≤ (gF G 12 0 0) ∧ (gA G 261 0 (y)) ≤ (gA G 262 0 (y)) ∧ (gA G 261 0 (y)) ≤ (gF G 12 0 0) ∧ ((gA G 218 0 (x)) < 0 ∨ (0 ≤ (gA G 218 0 (x)) ∧ (gA G 217 0 (x)) ≤ (gA G 218 0 (x)) ∧ (gA G 261 0 (y)) ≤ (gA G 218 0 (x))))) → (gA G 216 0 (x)) = (gA G 260 0 (y)))) ∧ ∀ y, 0 ≤ y → y < t → ((gA G 215 0 (s)) = p → ((gA G 217 0 (s)) ≤ (gA G 262 0 (y)) ∧ (gA G 217 0 (s)) ≤ (gF G 12 0 0) ∧ (gA G 261 0 (y)) ≤ (gA G 262 0 (y)) ∧ (gA G 261 0 (y)) ≤ (gF G 12 0 0) ∧ ((gA G 218 0 (s)) < 0 ∨ (0 ≤ (gA G 218 0 (s)) ∧ (gA G 217 0 (s)) ≤ (gA G 218 0 (s)) ∧ (gA G 261 0 (y)) ≤ (gA G 218 0 (s))))) → (gA G 216 0 (s)) = (gA G 260 0 (y))))) with q | q; exact absurd (hw.trans q) h149; exact hw.trans q
                            have hA := b2i_eq1.mp (hw.symm.trans hv1)
                            refine pw_iload r_12_couldBe_152 rfl ?_
                            refine pw_if_eq r_12_couldBe_154 (fun h154 => ?_) (fun h154 => ?_)
                            · skip
                              refine pw_const r_12_couldBe_173 ?_
                              refine pw_goto r_12_couldBe_174 ?_
                              refine pw_istore (ls' := [some (vR 12 (0)), some (vI (p)), some (vI (1)), some (vI (s)), some (vI (z)), some (vI (t)), some (vI (gA G 262 (0) (t))), some (vI (gA G 217 (0) (s))), some (vI (0))]) r_12_couldBe_178 rfl rfl ?_
                              refine pw_iinc (b := 0) (ls' := [some (vR 12 (0)), some (vI (p)), some (vI (1)), some (vI (s)), some (vI (z)), some (vI ((t + 1))), some (vI (gA G 262 (0) (t))), some (vI (gA G 217 (0) (s))), some (vI (0))]) r_12_couldBe_179 rfl rfl (by omega) rfl ?_
                              refine pw_goto r_12_couldBe_182 ?_
                              refine pw_weakL (ls' := [some (vR 12 (0)), some (vI (p)), some (vI (1)), some (vI (s)), some (vI (z)), some (vI ((t + 1))), none, none, none]) (⟨rfl, ⟨rfl, ⟨rfl, ⟨rfl, ⟨rfl, ⟨rfl, trivial⟩⟩⟩⟩⟩⟩) ?_
                              exact ih39 ((t + 1)) (z) (1) (by omega) (hz) (by first | exact (b2i_t ⟨hA.1, all_s hA.2 (by intro _ _; omega)⟩).symm | exact (b2i_f (fun q => h149n ⟨q.1, fun y a b => q.2 y a (by omega)⟩)).symm | exact (b2i_f (fun q => by have := q.2 t (by omega) (by omega); omega)).symm) (by omega)
                            · skip
                              refine pw_aload r_12_couldBe_157 rfl ?_
                              refine pw_getR r_12_couldBe_158 fs_12_19 (by decide) ?_
                              refine pw_iload r_12_couldBe_161 rfl ?_
                              refine pw_iald r_12_couldBe_162 sh216 (by omega) (by omega) ?_
                              refine pw_aload r_12_couldBe_163 rfl ?_
                              refine pw_getR r_12_couldBe_164 fs_12_88 (by decide) ?_
                              refine pw_iload r_12_couldBe_167 rfl ?_
                              refine pw_iald r_12_couldBe_169 sh260 (by omega) (by omega) ?_
                              refine pw_icmp_ne r_12_couldBe_170 (fun h170 => ?_) (fun h170 => ?_)
                              · skip
                                refine pw_const r_12_couldBe_177 ?_
                                refine pw_istore (ls' := [some (vR 12 (0)), some (vI (p)), some (vI (0)), some (vI (s)), some (vI (z)), some (vI (t)), some (vI (gA G 262 (0) (t))), some (vI (gA G 217 (0) (s))), some (vI (0))]) r_12_couldBe_178 rfl rfl ?_
                                refine pw_iinc (b := 0) (ls' := [some (vR 12 (0)), some (vI (p)), some (vI (0)), some (vI (s)), some (vI (z)), some (vI ((t + 1))), some (vI (gA G 262 (0) (t))), some (vI (gA G 217 (0) (s))), some (vI (0))]) r_12_couldBe_179 rfl rfl (by omega) rfl ?_
                                refine pw_goto r_12_couldBe_182 ?_
                                refine pw_weakL (ls' := [some (vR 12 (0)), some (vI (p)), some (vI (0)), some (vI (s)), some (vI (z)), some (vI ((t + 1))), none, none, none]) (⟨rfl, ⟨rfl, ⟨rfl, ⟨rfl, ⟨rfl, ⟨rfl, trivial⟩⟩⟩⟩⟩⟩) ?_
                                exact ih39 ((t + 1)) (z) (0) (by omega) (hz) (by first | exact (b2i_t ⟨hA.1, all_s hA.2 (by intro _ _; omega)⟩).symm | exact (b2i_f (fun q => h149n ⟨q.1, fun y a b => q.2 y a (by omega)⟩)).symm | exact (b2i_f (fun q => by have := q.2 t (by omega) (by omega); omega)).symm) (by omega)
                              · skip
                                refine pw_const r_12_couldBe_173 ?_
                                refine pw_goto r_12_couldBe_174 ?_
                                refine pw_istore (ls' := [some (vR 12 (0)), some (vI (p)), some (vI (1)), some (vI (s)), some (vI (z)), some (vI (t)), some (vI (gA G 262 (0) (t))), some (vI (gA G 217 (0) (s))), some (vI (0))]) r_12_couldBe_178 rfl rfl ?_
                                refine pw_iinc (b := 0) (ls' := [some (vR 12 (0)), some (vI (p)), some (vI (1)), some (vI (s)), some (vI (z)), some (vI ((t + 1))), some (vI (gA G 262 (0) (t))), some (vI (gA G 217 (0) (s))), some (vI (0))]) r_12_couldBe_179 rfl rfl (by omega) rfl ?_
                                refine pw_goto r_12_couldBe_182 ?_
                                refine pw_weakL (ls' := [some (vR 12 (0)), some (vI (p)), some (vI (1)), some (vI (s)), some (vI (z)), some (vI ((t + 1))), none, none, none]) (⟨rfl, ⟨rfl, ⟨rfl, ⟨rfl, ⟨rfl, ⟨rfl, trivial⟩⟩⟩⟩⟩⟩) ?_
                                exact ih39 ((t + 1)) (z) (1) (by omega) (hz) (by first | exact (b2i_t ⟨hA.1, all_s hA.2 (by intro _ _; omega)⟩).symm | exact (b2i_f (fun q => h149n ⟨q.1, fun y a b => q.2 y a (by omega)⟩)).symm | exact (b2i_f (fun q => by have := q.2 t (by omega) (by omega); omega)).symm) (by omega)
                        · skip
                          refine pw_const r_12_couldBe_141 ?_
                          refine pw_goto r_12_couldBe_142 ?_
                          refine pw_istore (ls' := [some (vR 12 (0)), some (vI (p)), some (vI (v)), some (vI (s)), some (vI (z)), some (vI (t)), some (vI (gA G 262 (0) (t))), some (vI (gA G 217 (0) (s))), some (vI (1))]) r_12_couldBe_146 rfl rfl ?_
                          refine pw_iload r_12_couldBe_148 rfl ?_
                          refine pw_if_eq r_12_couldBe_149 (fun h149 => ?_) (fun h149 => ?_)
                          · skip
                            have h149n := b2i_eq0.mp (hw.symm.trans h149)
                            refine pw_const r_12_couldBe_177 ?_
                            refine pw_istore (ls' := [some (vR 12 (0)), some (vI (p)), some (vI (0)), some (vI (s)), some (vI (z)), some (vI (t)), some (vI (gA G 262 (0) (t))), some (vI (gA G 217 (0) (s))), some (vI (1))]) r_12_couldBe_178 rfl rfl ?_
                            refine pw_iinc (b := 0) (ls' := [some (vR 12 (0)), some (vI (p)), some (vI (0)), some (vI (s)), some (vI (z)), some (vI ((t + 1))), some (vI (gA G 262 (0) (t))), some (vI (gA G 217 (0) (s))), some (vI (1))]) r_12_couldBe_179 rfl rfl (by omega) rfl ?_
                            refine pw_goto r_12_couldBe_182 ?_
                            refine pw_weakL (ls' := [some (vR 12 (0)), some (vI (p)), some (vI (0)), some (vI (s)), some (vI (z)), some (vI ((t + 1))), none, none, none]) (⟨rfl, ⟨rfl, ⟨rfl, ⟨rfl, ⟨rfl, ⟨rfl, trivial⟩⟩⟩⟩⟩⟩) ?_
                            exact ih39 ((t + 1)) (z) (0) (by omega) (hz) (by first | exact (b2i_t ⟨hA.1, all_s hA.2 (by intro _ _; omega)⟩).symm | exact (b2i_f (fun q => h149n ⟨q.1, fun y a b => q.2 y a (by omega)⟩)).symm | exact (b2i_f (fun q => by have := q.2 t (by omega) (by omega); omega)).symm) (by omega)
                          · skip
                            have hv1 : v = 1 := by rcases b2i_01 (((∀ x, 0 ≤ x → x < s → ∀ y, 0 ≤ y → y < (gF G 12 0 91) → ((gA G 215 0 (x)) = p → ((gA G 217 0 (x)) ≤ (gA G 262 0 (y)) ∧ (gA G 217 0 (x)) ≤ (gF G 12 0 0) ∧ (gA G 261 0 (y)) ≤ (gA G 262 0 (y)) ∧ (gA G 261 0 (y)) ≤ (gF G 12 0 0) ∧ ((gA G 218 0 (x)) < 0 ∨ (0 ≤ (gA G 218 0 (x)) ∧ (gA G 217 0 (x)) ≤ (gA G 218 0 (x)) ∧ (gA G 261 0 (y)) ≤ (gA G 218 0 (x))))) → (gA G 216 0 (x)) = (gA G 260 0 (y)))) ∧ ∀ y, 0 ≤ y → y < t → ((gA G 215 0 (s)) = p → ((gA G 217 0 (s)) ≤ (gA G 262 0 (y)) ∧ (gA G 217 0 (s)) ≤ (gF G 12 0 0) ∧ (gA G 261 0 (y)) ≤ (gA G 262 0 (y)) ∧ (gA G 261 0 (y)) ≤ (gF G 12 0 0) ∧ ((gA G 218 0 (s)) < 0 ∨ (0 ≤ (gA G 218 0 (s)) ∧ (gA G 217 0 (s)) ≤ (gA G 218 0 (s)) ∧ (gA G 261 0 (y)) ≤ (gA G 218 0 (s))))) → (gA G 216 0 (s)) = (gA G 260 0 (y))))) with q | q; exact absurd (hw.trans q) h149; exact hw.trans q
                            have hA := b2i_eq1.mp (hw.symm.trans hv1)
                            refine pw_iload r_12_couldBe_152 rfl ?_
                            refine pw_if_eq r_12_couldBe_154 (fun h154 => ?_) (fun h154 => ?_)
                            · skip
                              refine pw_const r_12_couldBe_173 ?_
                              refine pw_goto r_12_couldBe_174 ?_
                              refine pw_istore (ls' := [some (vR 12 (0)), some (vI (p)), some (vI (1)), some (vI (s)), some (vI (z)), some (vI (t)), some (vI (gA G 262 (0) (t))), some (vI (gA G 217 (0) (s))), some (vI (1))]) r_12_couldBe_178 rfl rfl ?_
                              refine pw_iinc (b := 0) (ls' := [some (vR 12 (0)), some (vI (p)), some (vI (1)), some (vI (s)), some (vI (z)), some (vI ((t + 1))), some (vI (gA G 262 (0) (t))), some (vI (gA G 217 (0) (s))), some (vI (1))]) r_12_couldBe_179 rfl rfl (by omega) rfl ?_
                              refine pw_goto r_12_couldBe_182 ?_
                              refine pw_weakL (ls' := [some (vR 12 (0)), some (vI (p)), some (vI (1)), some (vI (s)), some (vI (z)), some (vI ((t + 1))), none, none, none]) (⟨rfl, ⟨rfl, ⟨rfl, ⟨rfl, ⟨rfl, ⟨rfl, trivial⟩⟩⟩⟩⟩⟩) ?_
                              exact ih39 ((t + 1)) (z) (1) (by omega) (hz) (by first | exact (b2i_t ⟨hA.1, all_s hA.2 (by intro _ _; omega)⟩).symm | exact (b2i_f (fun q => h149n ⟨q.1, fun y a b => q.2 y a (by omega)⟩)).symm | exact (b2i_f (fun q => by have := q.2 t (by omega) (by omega); omega)).symm) (by omega)
                            · skip
                              refine pw_aload r_12_couldBe_157 rfl ?_
                              refine pw_getR r_12_couldBe_158 fs_12_19 (by decide) ?_
                              refine pw_iload r_12_couldBe_161 rfl ?_
                              refine pw_iald r_12_couldBe_162 sh216 (by omega) (by omega) ?_
                              refine pw_aload r_12_couldBe_163 rfl ?_
                              refine pw_getR r_12_couldBe_164 fs_12_88 (by decide) ?_
                              refine pw_iload r_12_couldBe_167 rfl ?_
                              refine pw_iald r_12_couldBe_169 sh260 (by omega) (by omega) ?_
                              refine pw_icmp_ne r_12_couldBe_170 (fun h170 => ?_) (fun h170 => ?_)
                              · skip
                                refine pw_const r_12_couldBe_177 ?_
                                refine pw_istore (ls' := [some (vR 12 (0)), some (vI (p)), some (vI (0)), some (vI (s)), some (vI (z)), some (vI (t)), some (vI (gA G 262 (0) (t))), some (vI (gA G 217 (0) (s))), some (vI (1))]) r_12_couldBe_178 rfl rfl ?_
                                refine pw_iinc (b := 0) (ls' := [some (vR 12 (0)), some (vI (p)), some (vI (0)), some (vI (s)), some (vI (z)), some (vI ((t + 1))), some (vI (gA G 262 (0) (t))), some (vI (gA G 217 (0) (s))), some (vI (1))]) r_12_couldBe_179 rfl rfl (by omega) rfl ?_
                                refine pw_goto r_12_couldBe_182 ?_
                                refine pw_weakL (ls' := [some (vR 12 (0)), some (vI (p)), some (vI (0)), some (vI (s)), some (vI (z)), some (vI ((t + 1))), none, none, none]) (⟨rfl, ⟨rfl, ⟨rfl, ⟨rfl, ⟨rfl, ⟨rfl, trivial⟩⟩⟩⟩⟩⟩) ?_
                                exact ih39 ((t + 1)) (z) (0) (by omega) (hz) (by first | exact (b2i_t ⟨hA.1, all_s hA.2 (by intro _ _; omega)⟩).symm | exact (b2i_f (fun q => h149n ⟨q.1, fun y a b => q.2 y a (by omega)⟩)).symm | exact (b2i_f (fun q => by have := q.2 t (by omega) (by omega); omega)).symm) (by omega)
                              · skip
                                refine pw_const r_12_couldBe_173 ?_
                                refine pw_goto r_12_couldBe_174 ?_
                                refine pw_istore (ls' := [some (vR 12 (0)), some (vI (p)), some (vI (1)), some (vI (s)), some (vI (z)), some (vI (t)), some (vI (gA G 262 (0) (t))), some (vI (gA G 217 (0) (s))), some (vI (1))]) r_12_couldBe_178 rfl rfl ?_
                                refine pw_iinc (b := 0) (ls' := [some (vR 12 (0)), some (vI (p)), some (vI (1)), some (vI (s)), some (vI (z)), some (vI ((t + 1))), some (vI (gA G 262 (0) (t))), some (vI (gA G 217 (0) (s))), some (vI (1))]) r_12_couldBe_179 rfl rfl (by omega) rfl ?_
                                refine pw_goto r_12_couldBe_182 ?_
                                refine pw_weakL (ls' := [some (vR 12 (0)), some (vI (p)), some (vI (1)), some (vI (s)), some (vI (z)), some (vI ((t + 1))), none, none, none]) (⟨rfl, ⟨rfl, ⟨rfl, ⟨rfl, ⟨rfl, ⟨rfl, trivial⟩⟩⟩⟩⟩⟩) ?_
                                exact ih39 ((t + 1)) (z) (1) (by omega) (hz) (by first | exact (b2i_t ⟨hA.1, all_s hA.2 (by intro _ _; omega)⟩).symm | exact (b2i_f (fun q => h149n ⟨q.1, fun y a b => q.2 y a (by omega)⟩)).symm | exact (b2i_f (fun q => by have := q.2 t (by omega) (by omega); omega)).symm) (by omega)
          exact L39 _ (0) (gA G 218 (0) (s)) (v) (by omega) (by omega) (hv.trans (b2i_congr ⟨fun q => ⟨q, fun y a b => by omega⟩, fun q => q.1⟩)) (Nat.lt_succ_self _)
        · skip
          refine pw_aload r_12_couldBe_21 rfl ?_
          refine pw_getI r_12_couldBe_22 fs_12_0 (by decide) ?_
          refine pw_goto r_12_couldBe_25 ?_
          refine pw_istore (ls' := [some (vR 12 (0)), some (vI (p)), some (vI (v)), some (vI (s)), some (vI (gF G 12 (0) 0)), none, none, none, none]) r_12_couldBe_34 rfl rfl ?_
          refine pw_const r_12_couldBe_36 ?_
          refine pw_istore (ls' := [some (vR 12 (0)), some (vI (p)), some (vI (v)), some (vI (s)), some (vI (gF G 12 (0) 0)), some (vI (0)), none, none, none]) r_12_couldBe_37 rfl rfl ?_
          have L39 : ∀ (nF : Nat) (t z v : Int), (ht : 0 ≤ t ∧ t ≤ (gF G 12 0 91)) → (hz : ((gA G 218 0 (s)) < 0 ∧ z = (gF G 12 0 0)) ∨ (0 ≤ (gA G 218 0 (s)) ∧ z = (gA G 218 0 (s)))) → (hw : v = b2i ((∀ x, 0 ≤ x → x < s → ∀ y, 0 ≤ y → y < (gF G 12 0 91) → ((gA G 215 0 (x)) = p → ((gA G 217 0 (x)) ≤ (gA G 262 0 (y)) ∧ (gA G 217 0 (x)) ≤ (gF G 12 0 0) ∧ (gA G 261 0 (y)) ≤ (gA G 262 0 (y)) ∧ (gA G 261 0 (y)) ≤ (gF G 12 0 0) ∧ ((gA G 218 0 (x)) < 0 ∨ (0 ≤ (gA G 218 0 (x)) ∧ (gA G 217 0 (x)) ≤ (gA G 218 0 (x)) ∧ (gA G 261 0 (y)) ≤ (gA G 218 0 (x))))) → (gA G 216 0 (x)) = (gA G 260 0 (y)))) ∧ ∀ y, 0 ≤ y → y < t → ((gA G 215 0 (s)) = p → ((gA G 217 0 (s)) ≤ (gA G 262 0 (y)) ∧ (gA G 217 0 (s)) ≤ (gF G 12 0 0) ∧ (gA G 261 0 (y)) ≤ (gA G 262 0 (y)) ∧ (gA G 261 0 (y)) ≤ (gF G 12 0 0) ∧ ((gA G 218 0 (s)) < 0 ∨ (0 ≤ (gA G 218 0 (s)) ∧ (gA G 217 0 (s)) ≤ (gA G 218 0 (s)) ∧ (gA G 261 0 (y)) ≤ (gA G 218 0 (s))))) → (gA G 216 0 (s)) = (gA G 260 0 (y))))) → ((gF G 12 0 91) - t).toNat < nF → PW l w M_X12_couldBe (d + 0) 39 [some (vR 12 (0)), some (vI (p)), some (vI (v)), some (vI (s)), some (vI (z)), some (vI (t)), none, none, none] [] G P := by
            intro nF
            induction nF with
            | zero => intro _ _ _ _ _ _ hM; exact absurd hM (Nat.not_lt_zero _)
            | succ nF ih39 =>
              intro t z v ht hz hw hM39
              refine pw_iload r_12_couldBe_39 rfl ?_
              refine pw_aload r_12_couldBe_41 rfl ?_
              refine pw_getI r_12_couldBe_42 fs_12_91 (by decide) ?_
              refine pw_icmp_ge r_12_couldBe_45 (fun h45 => ?_) (fun h45 => ?_)
              · skip
                have hout : v = b2i (∀ x, 0 ≤ x → x < (s + 1) → ∀ y, 0 ≤ y → y < (gF G 12 0 91) → ((gA G 215 0 (x)) = p → ((gA G 217 0 (x)) ≤ (gA G 262 0 (y)) ∧ (gA G 217 0 (x)) ≤ (gF G 12 0 0) ∧ (gA G 261 0 (y)) ≤ (gA G 262 0 (y)) ∧ (gA G 261 0 (y)) ≤ (gF G 12 0 0) ∧ ((gA G 218 0 (x)) < 0 ∨ (0 ≤ (gA G 218 0 (x)) ∧ (gA G 217 0 (x)) ≤ (gA G 218 0 (x)) ∧ (gA G 261 0 (y)) ≤ (gA G 218 0 (x))))) → (gA G 216 0 (x)) = (gA G 260 0 (y)))) := hw.trans (b2i_congr (Iff.symm ((all_s_iff hi.1).trans (by rw [show t = (gF G 12 0 91) by omega]))))
                refine pw_iinc (b := 0) (ls' := [some (vR 12 (0)), some (vI (p)), some (vI (v)), some (vI ((s + 1))), some (vI (z)), some (vI (t)), none, none, none]) r_12_couldBe_185 rfl rfl (by omega) rfl ?_
                refine pw_goto r_12_couldBe_188 ?_
                refine pw_weakL (ls' := [some (vR 12 (0)), some (vI (p)), some (vI (v)), some (vI ((s + 1))), none, none, none, none, none]) (⟨rfl, ⟨rfl, ⟨rfl, ⟨rfl, trivial⟩⟩⟩⟩) ?_
                exact ih4 ((s + 1)) (v) (by omega) (hout) (by omega)
              · skip
                refine pw_aload r_12_couldBe_48 rfl ?_
                refine pw_getR r_12_couldBe_49 fs_12_18 (by decide) ?_
                refine pw_iload r_12_couldBe_52 rfl ?_
                refine pw_iald r_12_couldBe_53 sh215 (by omega) (by omega) ?_
                refine pw_iload r_12_couldBe_54 rfl ?_
                refine pw_icmp_ne r_12_couldBe_55 (fun h55 => ?_) (fun h55 => ?_)
                · skip
                  have hout : v = b2i (∀ x, 0 ≤ x → x < (s + 1) → ∀ y, 0 ≤ y → y < (gF G 12 0 91) → ((gA G 215 0 (x)) = p → ((gA G 217 0 (x)) ≤ (gA G 262 0 (y)) ∧ (gA G 217 0 (x)) ≤ (gF G 12 0 0) ∧ (gA G 261 0 (y)) ≤ (gA G 262 0 (y)) ∧ (gA G 261 0 (y)) ≤ (gF G 12 0 0) ∧ ((gA G 218 0 (x)) < 0 ∨ (0 ≤ (gA G 218 0 (x)) ∧ (gA G 217 0 (x)) ≤ (gA G 218 0 (x)) ∧ (gA G 261 0 (y)) ≤ (gA G 218 0 (x))))) → (gA G 216 0 (x)) = (gA G 260 0 (y)))) := hw.trans (b2i_congr (Iff.symm ((all_s_iff hi.1).trans ⟨fun q => ⟨q.1, fun y a b e => absurd e (by omega)⟩, fun q => ⟨q.1, fun y a b e => absurd e (by omega)⟩⟩)))
                  refine pw_iinc (b := 0) (ls' := [some (vR 12 (0)), some (vI (p)), some (vI (v)), some (vI ((s + 1))), some (vI (z)), some (vI (t)), none, none, none]) r_12_couldBe_185 rfl rfl (by omega) rfl ?_
                  refine pw_goto r_12_couldBe_188 ?_
                  refine pw_weakL (ls' := [some (vR 12 (0)), some (vI (p)), some (vI (v)), some (vI ((s + 1))), none, none, none, none, none]) (⟨rfl, ⟨rfl, ⟨rfl, ⟨rfl, trivial⟩⟩⟩⟩) ?_
                  exact ih4 ((s + 1)) (v) (by omega) (hout) (by omega)
                · skip
                  refine pw_aload r_12_couldBe_58 rfl ?_
                  refine pw_getR r_12_couldBe_59 fs_12_90 (by decide) ?_
                  refine pw_iload r_12_couldBe_62 rfl ?_
                  refine pw_iald r_12_couldBe_64 sh262 (by omega) (by omega) ?_
                  refine pw_aload r_12_couldBe_65 rfl ?_
                  refine pw_getI r_12_couldBe_66 fs_12_0 (by decide) ?_
                  refine pw_icmp_ge r_12_couldBe_69 (fun h69 => ?_) (fun h69 => ?_)
                  · skip
                    refine pw_aload r_12_couldBe_82 rfl ?_
                    refine pw_getI r_12_couldBe_83 fs_12_0 (by decide) ?_
                    refine pw_istore (ls' := [some (vR 12 (0)), some (vI (p)), some (vI (v)), some (vI (s)), some (vI (z)), some (vI (t)), some (vI (gF G 12 (0) 0)), none, none]) r_12_couldBe_86 rfl rfl ?_
                    refine pw_aload r_12_couldBe_88 rfl ?_
                    refine pw_getR r_12_couldBe_89 fs_12_20 (by decide) ?_
                    refine pw_iload r_12_couldBe_92 rfl ?_
                    refine pw_iald r_12_couldBe_93 sh217 (by omega) (by omega) ?_
                    refine pw_aload r_12_couldBe_94 rfl ?_
                    refine pw_getR r_12_couldBe_95 fs_12_89 (by decide) ?_
                    refine pw_iload r_12_couldBe_98 rfl ?_
                    refine pw_iald r_12_couldBe_100 sh261 (by omega) (by omega) ?_
                    refine pw_icmp_le r_12_couldBe_101 (fun h101 => ?_) (fun h101 => ?_)
                    · skip
                      refine pw_aload r_12_couldBe_113 rfl ?_
                      refine pw_getR r_12_couldBe_114 fs_12_89 (by decide) ?_
                      refine pw_iload r_12_couldBe_117 rfl ?_
                      refine pw_iald r_12_couldBe_119 sh261 (by omega) (by omega) ?_
                      refine pw_istore (ls' := [some (vR 12 (0)), some (vI (p)), some (vI (v)), some (vI (s)), some (vI (z)), some (vI (t)), some (vI (gF G 12 (0) 0)), some (vI (gA G 261 (0) (t))), none]) r_12_couldBe_120 rfl rfl ?_
                      refine pw_iload r_12_couldBe_122 rfl ?_
                      refine pw_iload r_12_couldBe_124 rfl ?_
                      refine pw_iload r_12_couldBe_126 rfl ?_
                      refine pw_icmp_ge r_12_couldBe_128 (fun h128 => ?_) (fun h128 => ?_)
                      · skip
                        refine pw_iload r_12_couldBe_136 rfl ?_
                        refine pw_icmp_gt r_12_couldBe_138 (fun h138 => ?_) (fun h138 => ?_)
                        · skip
                          refine pw_const r_12_couldBe_145 ?_
                          refine pw_istore (ls' := [some (vR 12 (0)), some (vI (p)), some (vI (v)), some (vI (s)), some (vI (z)), some (vI (t)), some (vI (gF G 12 (0) 0)), some (vI (gA G 261 (0) (t))), some (vI (0))]) r_12_couldBe_146 rfl rfl ?_
                          refine pw_iload r_12_couldBe_148 rfl ?_
                          refine pw_if_eq r_12_couldBe_149 (fun h149 => ?_) (fun h149 => ?_)
                          · skip
                            have h149n := b2i_eq0.mp (hw.symm.trans h149)
                            refine pw_const r_12_couldBe_177 ?_
                            refine pw_istore (ls' := [some (vR 12 (0)), some (vI (p)), some (vI (0)), some (vI (s)), some (vI (z)), some (vI (t)), some (vI (gF G 12 (0) 0)), some (vI (gA G 261 (0) (t))), some (vI (0))]) r_12_couldBe_178 rfl rfl ?_
                            refine pw_iinc (b := 0) (ls' := [some (vR 12 (0)), some (vI (p)), some (vI (0)), some (vI (s)), some (vI (z)), some (vI ((t + 1))), some (vI (gF G 12 (0) 0)), some (vI (gA G 261 (0) (t))), some (vI (0))]) r_12_couldBe_179 rfl rfl (by omega) rfl ?_
                            refine pw_goto r_12_couldBe_182 ?_
                            refine pw_weakL (ls' := [some (vR 12 (0)), some (vI (p)), some (vI (0)), some (vI (s)), some (vI (z)), some (vI ((t + 1))), none, none, none]) (⟨rfl, ⟨rfl, ⟨rfl, ⟨rfl, ⟨rfl, ⟨rfl, trivial⟩⟩⟩⟩⟩⟩) ?_
                            exact ih39 ((t + 1)) (z) (0) (by omega) (hz) (by first | exact (b2i_t ⟨hA.1, all_s hA.2 (by intro _ _; omega)⟩).symm | exact (b2i_f (fun q => h149n ⟨q.1, fun y a b => q.2 y a (by omega)⟩)).symm | exact (b2i_f (fun q => by have := q.2 t (by omega) (by omega); omega)).symm) (by omega)
                          · skip
                            have hv1 : v = 1 := by rcases b2i_01 (((∀ x, 0 ≤ x → x < s → ∀ y, 0 ≤ y → y < (gF G 12 0 91) → ((gA G 215 0 (x)) = p → ((gA G 217 0 (x)) ≤ (gA G 262 0 (y)) ∧ (gA G 217 0 (x)) ≤ (gF G 12 0 0) ∧ (gA G 261 0 (y)) ≤ (gA G 262 0 (y)) ∧ (gA G 261 0 (y)) ≤ (gF G 12 0 0) ∧ ((gA G 218 0 (x)) < 0 ∨ (0 ≤ (gA G 218 0 (x)) ∧ (gA G 217 0 (x)) ≤ (gA G 218 0 (x)) ∧ (gA G 261 0 (y)) ≤ (gA G 218 0 (x))))) → (gA G 216 0 (x)) = (gA G 260 0 (y)))) ∧ ∀ y, 0 ≤ y → y < t → ((gA G 215 0 (s)) = p → ((gA G 217 0 (s)) ≤ (gA G 262 0 (y)) ∧ (gA G 217 0 (s)) ≤ (gF G 12 0 0) ∧ (gA G 261 0 (y)) ≤ (gA G 262 0 (y)) ∧ (gA G 261 0 (y)) ≤ (gF G 12 0 0) ∧ ((gA G 218 0 (s)) < 0 ∨ (0 ≤ (gA G 218 0 (s)) ∧ (gA G 217 0 (s)) ≤ (gA G 218 0 (s)) ∧ (gA G 261 0 (y)) ≤ (gA G 218 0 (s))))) → (gA G 216 0 (s)) = (gA G 260 0 (y))))) with q | q; exact absurd (hw.trans q) h149; exact hw.trans q
                            have hA := b2i_eq1.mp (hw.symm.trans hv1)
                            refine pw_iload r_12_couldBe_152 rfl ?_
                            refine pw_if_eq r_12_couldBe_154 (fun h154 => ?_) (fun h154 => ?_)
                            · skip
                              refine pw_const r_12_couldBe_173 ?_
                              refine pw_goto r_12_couldBe_174 ?_
                              refine pw_istore (ls' := [some (vR 12 (0)), some (vI (p)), some (vI (1)), some (vI (s)), some (vI (z)), some (vI (t)), some (vI (gF G 12 (0) 0)), some (vI (gA G 261 (0) (t))), some (vI (0))]) r_12_couldBe_178 rfl rfl ?_
                              refine pw_iinc (b := 0) (ls' := [some (vR 12 (0)), some (vI (p)), some (vI (1)), some (vI (s)), some (vI (z)), some (vI ((t + 1))), some (vI (gF G 12 (0) 0)), some (vI (gA G 261 (0) (t))), some (vI (0))]) r_12_couldBe_179 rfl rfl (by omega) rfl ?_
                              refine pw_goto r_12_couldBe_182 ?_
                              refine pw_weakL (ls' := [some (vR 12 (0)), some (vI (p)), some (vI (1)), some (vI (s)), some (vI (z)), some (vI ((t + 1))), none, none, none]) (⟨rfl, ⟨rfl, ⟨rfl, ⟨rfl, ⟨rfl, ⟨rfl, trivial⟩⟩⟩⟩⟩⟩) ?_
                              exact ih39 ((t + 1)) (z) (1) (by omega) (hz) (by first | exact (b2i_t ⟨hA.1, all_s hA.2 (by intro _ _; omega)⟩).symm | exact (b2i_f (fun q => h149n ⟨q.1, fun y a b => q.2 y a (by omega)⟩)).symm | exact (b2i_f (fun q => by have := q.2 t (by omega) (by omega); omega)).symm) (by omega)
                            · skip
                              refine pw_aload r_12_couldBe_157 rfl ?_
                              refine pw_getR r_12_couldBe_158 fs_12_19 (by decide) ?_
                              refine pw_iload r_12_couldBe_161 rfl ?_
                              refine pw_iald r_12_couldBe_162 sh216 (by omega) (by omega) ?_
                              refine pw_aload r_12_couldBe_163 rfl ?_
                              refine pw_getR r_12_couldBe_164 fs_12_88 (by decide) ?_
                              refine pw_iload r_12_couldBe_167 rfl ?_
                              refine pw_iald r_12_couldBe_169 sh260 (by omega) (by omega) ?_
                              refine pw_icmp_ne r_12_couldBe_170 (fun h170 => ?_) (fun h170 => ?_)
                              · skip
                                refine pw_const r_12_couldBe_177 ?_
                                refine pw_istore (ls' := [some (vR 12 (0)), some (vI (p)), some (vI (0)), some (vI (s)), some (vI (z)), some (vI (t)), some (vI (gF G 12 (0) 0)), some (vI (gA G 261 (0) (t))), some (vI (0))]) r_12_couldBe_178 rfl rfl ?_
                                refine pw_iinc (b := 0) (ls' := [some (vR 12 (0)), some (vI (p)), some (vI (0)), some (vI (s)), some (vI (z)), some (vI ((t + 1))), some (vI (gF G 12 (0) 0)), some (vI (gA G 261 (0) (t))), some (vI (0))]) r_12_couldBe_179 rfl rfl (by omega) rfl ?_
                                refine pw_goto r_12_couldBe_182 ?_
                                refine pw_weakL (ls' := [some (vR 12 (0)), some (vI (p)), some (vI (0)), some (vI (s)), some (vI (z)), some (vI ((t + 1))), none, none, none]) (⟨rfl, ⟨rfl, ⟨rfl, ⟨rfl, ⟨rfl, ⟨rfl, trivial⟩⟩⟩⟩⟩⟩) ?_
                                exact ih39 ((t + 1)) (z) (0) (by omega) (hz) (by first | exact (b2i_t ⟨hA.1, all_s hA.2 (by intro _ _; omega)⟩).symm | exact (b2i_f (fun q => h149n ⟨q.1, fun y a b => q.2 y a (by omega)⟩)).symm | exact (b2i_f (fun q => by have := q.2 t (by omega) (by omega); omega)).symm) (by omega)
                              · skip
                                refine pw_const r_12_couldBe_173 ?_
                                refine pw_goto r_12_couldBe_174 ?_
                                refine pw_istore (ls' := [some (vR 12 (0)), some (vI (p)), some (vI (1)), some (vI (s)), some (vI (z)), some (vI (t)), some (vI (gF G 12 (0) 0)), some (vI (gA G 261 (0) (t))), some (vI (0))]) r_12_couldBe_178 rfl rfl ?_
                                refine pw_iinc (b := 0) (ls' := [some (vR 12 (0)), some (vI (p)), some (vI (1)), some (vI (s)), some (vI (z)), some (vI ((t + 1))), some (vI (gF G 12 (0) 0)), some (vI (gA G 261 (0) (t))), some (vI (0))]) r_12_couldBe_179 rfl rfl (by omega) rfl ?_
                                refine pw_goto r_12_couldBe_182 ?_
                                refine pw_weakL (ls' := [some (vR 12 (0)), some (vI (p)), some (vI (1)), some (vI (s)), some (vI (z)), some (vI ((t + 1))), none, none, none]) (⟨rfl, ⟨rfl, ⟨rfl, ⟨rfl, ⟨rfl, ⟨rfl, trivial⟩⟩⟩⟩⟩⟩) ?_
                                exact ih39 ((t + 1)) (z) (1) (by omega) (hz) (by first | exact (b2i_t ⟨hA.1, all_s hA.2 (by intro _ _; omega)⟩).symm | exact (b2i_f (fun q => h149n ⟨q.1, fun y a b => q.2 y a (by omega)⟩)).symm | exact (b2i_f (fun q => by have := q.2 t (by omega) (by omega); omega)).symm) (by omega)
                        · skip
                          refine pw_const r_12_couldBe_141 ?_
                          refine pw_goto r_12_couldBe_142 ?_
                          refine pw_istore (ls' := [some (vR 12 (0)), some (vI (p)), some (vI (v)), some (vI (s)), some (vI (z)), some (vI (t)), some (vI (gF G 12 (0) 0)), some (vI (gA G 261 (0) (t))), some (vI (1))]) r_12_couldBe_146 rfl rfl ?_
                          refine pw_iload r_12_couldBe_148 rfl ?_
                          refine pw_if_eq r_12_couldBe_149 (fun h149 => ?_) (fun h149 => ?_)
                          · skip
                            have h149n := b2i_eq0.mp (hw.symm.trans h149)
                            refine pw_const r_12_couldBe_177 ?_
                            refine pw_istore (ls' := [some (vR 12 (0)), some (vI (p)), some (vI (0)), some (vI (s)), some (vI (z)), some (vI (t)), some (vI (gF G 12 (0) 0)), some (vI (gA G 261 (0) (t))), some (vI (1))]) r_12_couldBe_178 rfl rfl ?_
                            refine pw_iinc (b := 0) (ls' := [some (vR 12 (0)), some (vI (p)), some (vI (0)), some (vI (s)), some (vI (z)), some (vI ((t + 1))), some (vI (gF G 12 (0) 0)), some (vI (gA G 261 (0) (t))), some (vI (1))]) r_12_couldBe_179 rfl rfl (by omega) rfl ?_
                            refine pw_goto r_12_couldBe_182 ?_
                            refine pw_weakL (ls' := [some (vR 12 (0)), some (vI (p)), some (vI (0)), some (vI (s)), some (vI (z)), some (vI ((t + 1))), none, none, none]) (⟨rfl, ⟨rfl, ⟨rfl, ⟨rfl, ⟨rfl, ⟨rfl, trivial⟩⟩⟩⟩⟩⟩) ?_
                            exact ih39 ((t + 1)) (z) (0) (by omega) (hz) (by first | exact (b2i_t ⟨hA.1, all_s hA.2 (by intro _ _; omega)⟩).symm | exact (b2i_f (fun q => h149n ⟨q.1, fun y a b => q.2 y a (by omega)⟩)).symm | exact (b2i_f (fun q => by have := q.2 t (by omega) (by omega); omega)).symm) (by omega)
                          · skip
                            have hv1 : v = 1 := by rcases b2i_01 (((∀ x, 0 ≤ x → x < s → ∀ y, 0 ≤ y → y < (gF G 12 0 91) → ((gA G 215 0 (x)) = p → ((gA G 217 0 (x)) ≤ (gA G 262 0 (y)) ∧ (gA G 217 0 (x)) ≤ (gF G 12 0 0) ∧ (gA G 261 0 (y)) ≤ (gA G 262 0 (y)) ∧ (gA G 261 0 (y)) ≤ (gF G 12 0 0) ∧ ((gA G 218 0 (x)) < 0 ∨ (0 ≤ (gA G 218 0 (x)) ∧ (gA G 217 0 (x)) ≤ (gA G 218 0 (x)) ∧ (gA G 261 0 (y)) ≤ (gA G 218 0 (x))))) → (gA G 216 0 (x)) = (gA G 260 0 (y)))) ∧ ∀ y, 0 ≤ y → y < t → ((gA G 215 0 (s)) = p → ((gA G 217 0 (s)) ≤ (gA G 262 0 (y)) ∧ (gA G 217 0 (s)) ≤ (gF G 12 0 0) ∧ (gA G 261 0 (y)) ≤ (gA G 262 0 (y)) ∧ (gA G 261 0 (y)) ≤ (gF G 12 0 0) ∧ ((gA G 218 0 (s)) < 0 ∨ (0 ≤ (gA G 218 0 (s)) ∧ (gA G 217 0 (s)) ≤ (gA G 218 0 (s)) ∧ (gA G 261 0 (y)) ≤ (gA G 218 0 (s))))) → (gA G 216 0 (s)) = (gA G 260 0 (y))))) with q | q; exact absurd (hw.trans q) h149; exact hw.trans q
                            have hA := b2i_eq1.mp (hw.symm.trans hv1)
                            refine pw_iload r_12_couldBe_152 rfl ?_
                            refine pw_if_eq r_12_couldBe_154 (fun h154 => ?_) (fun h154 => ?_)
                            · skip
                              refine pw_const r_12_couldBe_173 ?_
                              refine pw_goto r_12_couldBe_174 ?_
                              refine pw_istore (ls' := [some (vR 12 (0)), some (vI (p)), some (vI (1)), some (vI (s)), some (vI (z)), some (vI (t)), some (vI (gF G 12 (0) 0)), some (vI (gA G 261 (0) (t))), some (vI (1))]) r_12_couldBe_178 rfl rfl ?_
                              refine pw_iinc (b := 0) (ls' := [some (vR 12 (0)), some (vI (p)), some (vI (1)), some (vI (s)), some (vI (z)), some (vI ((t + 1))), some (vI (gF G 12 (0) 0)), some (vI (gA G 261 (0) (t))), some (vI (1))]) r_12_couldBe_179 rfl rfl (by omega) rfl ?_
                              refine pw_goto r_12_couldBe_182 ?_
                              refine pw_weakL (ls' := [some (vR 12 (0)), some (vI (p)), some (vI (1)), some (vI (s)), some (vI (z)), some (vI ((t + 1))), none, none, none]) (⟨rfl, ⟨rfl, ⟨rfl, ⟨rfl, ⟨rfl, ⟨rfl, trivial⟩⟩⟩⟩⟩⟩) ?_
                              exact ih39 ((t + 1)) (z) (1) (by omega) (hz) (by first | exact (b2i_t ⟨hA.1, all_s hA.2 (by intro _ _; omega)⟩).symm | exact (b2i_f (fun q => h149n ⟨q.1, fun y a b => q.2 y a (by omega)⟩)).symm | exact (b2i_f (fun q => by have := q.2 t (by omega) (by omega); omega)).symm) (by omega)
                            · skip
                              refine pw_aload r_12_couldBe_157 rfl ?_
                              refine pw_getR r_12_couldBe_158 fs_12_19 (by decide) ?_
                              refine pw_iload r_12_couldBe_161 rfl ?_
                              refine pw_iald r_12_couldBe_162 sh216 (by omega) (by omega) ?_
                              refine pw_aload r_12_couldBe_163 rfl ?_
                              refine pw_getR r_12_couldBe_164 fs_12_88 (by decide) ?_
                              refine pw_iload r_12_couldBe_167 rfl ?_
                              refine pw_iald r_12_couldBe_169 sh260 (by omega) (by omega) ?_
                              refine pw_icmp_ne r_12_couldBe_170 (fun h170 => ?_) (fun h170 => ?_)
                              · skip
                                refine pw_const r_12_couldBe_177 ?_
                                refine pw_istore (ls' := [some (vR 12 (0)), some (vI (p)), some (vI (0)), some (vI (s)), some (vI (z)), some (vI (t)), some (vI (gF G 12 (0) 0)), some (vI (gA G 261 (0) (t))), some (vI (1))]) r_12_couldBe_178 rfl rfl ?_
                                refine pw_iinc (b := 0) (ls' := [some (vR 12 (0)), some (vI (p)), some (vI (0)), some (vI (s)), some (vI (z)), some (vI ((t + 1))), some (vI (gF G 12 (0) 0)), some (vI (gA G 261 (0) (t))), some (vI (1))]) r_12_couldBe_179 rfl rfl (by omega) rfl ?_
                                refine pw_goto r_12_couldBe_182 ?_
                                refine pw_weakL (ls' := [some (vR 12 (0)), some (vI (p)), some (vI (0)), some (vI (s)), some (vI (z)), some (vI ((t + 1))), none, none, none]) (⟨rfl, ⟨rfl, ⟨rfl, ⟨rfl, ⟨rfl, ⟨rfl, trivial⟩⟩⟩⟩⟩⟩) ?_
                                exact ih39 ((t + 1)) (z) (0) (by omega) (hz) (by first | exact (b2i_t ⟨hA.1, all_s hA.2 (by intro _ _; omega)⟩).symm | exact (b2i_f (fun q => h149n ⟨q.1, fun y a b => q.2 y a (by omega)⟩)).symm | exact (b2i_f (fun q => by have := q.2 t (by omega) (by omega); omega)).symm) (by omega)
                              · skip
                                refine pw_const r_12_couldBe_173 ?_
                                refine pw_goto r_12_couldBe_174 ?_
                                refine pw_istore (ls' := [some (vR 12 (0)), some (vI (p)), some (vI (1)), some (vI (s)), some (vI (z)), some (vI (t)), some (vI (gF G 12 (0) 0)), some (vI (gA G 261 (0) (t))), some (vI (1))]) r_12_couldBe_178 rfl rfl ?_
                                refine pw_iinc (b := 0) (ls' := [some (vR 12 (0)), some (vI (p)), some (vI (1)), some (vI (s)), some (vI (z)), some (vI ((t + 1))), some (vI (gF G 12 (0) 0)), some (vI (gA G 261 (0) (t))), some (vI (1))]) r_12_couldBe_179 rfl rfl (by omega) rfl ?_
                                refine pw_goto r_12_couldBe_182 ?_
                                refine pw_weakL (ls' := [some (vR 12 (0)), some (vI (p)), some (vI (1)), some (vI (s)), some (vI (z)), some (vI ((t + 1))), none, none, none]) (⟨rfl, ⟨rfl, ⟨rfl, ⟨rfl, ⟨rfl, ⟨rfl, trivial⟩⟩⟩⟩⟩⟩) ?_
                                exact ih39 ((t + 1)) (z) (1) (by omega) (hz) (by first | exact (b2i_t ⟨hA.1, all_s hA.2 (by intro _ _; omega)⟩).symm | exact (b2i_f (fun q => h149n ⟨q.1, fun y a b => q.2 y a (by omega)⟩)).symm | exact (b2i_f (fun q => by have := q.2 t (by omega) (by omega); omega)).symm) (by omega)
                      · skip
                        refine pw_iload r_12_couldBe_131 rfl ?_
                        refine pw_goto r_12_couldBe_133 ?_
                        refine pw_icmp_gt r_12_couldBe_138 (fun h138 => ?_) (fun h138 => ?_)
                        · skip
                          refine pw_const r_12_couldBe_145 ?_
                          refine pw_istore (ls' := [some (vR 12 (0)), some (vI (p)), some (vI (v)), some (vI (s)), some (vI (z)), some (vI (t)), some (vI (gF G 12 (0) 0)), some (vI (gA G 261 (0) (t))), some (vI (0))]) r_12_couldBe_146 rfl rfl ?_
                          refine pw_iload r_12_couldBe_148 rfl ?_
                          refine pw_if_eq r_12_couldBe_149 (fun h149 => ?_) (fun h149 => ?_)
                          · skip
                            have h149n := b2i_eq0.mp (hw.symm.trans h149)
                            refine pw_const r_12_couldBe_177 ?_
                            refine pw_istore (ls' := [some (vR 12 (0)), some (vI (p)), some (vI (0)), some (vI (s)), some (vI (z)), some (vI (t)), some (vI (gF G 12 (0) 0)), some (vI (gA G 261 (0) (t))), some (vI (0))]) r_12_couldBe_178 rfl rfl ?_
                            refine pw_iinc (b := 0) (ls' := [some (vR 12 (0)), some (vI (p)), some (vI (0)), some (vI (s)), some (vI (z)), some (vI ((t + 1))), some (vI (gF G 12 (0) 0)), some (vI (gA G 261 (0) (t))), some (vI (0))]) r_12_couldBe_179 rfl rfl (by omega) rfl ?_
                            refine pw_goto r_12_couldBe_182 ?_
                            refine pw_weakL (ls' := [some (vR 12 (0)), some (vI (p)), some (vI (0)), some (vI (s)), some (vI (z)), some (vI ((t + 1))), none, none, none]) (⟨rfl, ⟨rfl, ⟨rfl, ⟨rfl, ⟨rfl, ⟨rfl, trivial⟩⟩⟩⟩⟩⟩) ?_
                            exact ih39 ((t + 1)) (z) (0) (by omega) (hz) (by first | exact (b2i_t ⟨hA.1, all_s hA.2 (by intro _ _; omega)⟩).symm | exact (b2i_f (fun q => h149n ⟨q.1, fun y a b => q.2 y a (by omega)⟩)).symm | exact (b2i_f (fun q => by have := q.2 t (by omega) (by omega); omega)).symm) (by omega)
                          · skip
                            have hv1 : v = 1 := by rcases b2i_01 (((∀ x, 0 ≤ x → x < s → ∀ y, 0 ≤ y → y < (gF G 12 0 91) → ((gA G 215 0 (x)) = p → ((gA G 217 0 (x)) ≤ (gA G 262 0 (y)) ∧ (gA G 217 0 (x)) ≤ (gF G 12 0 0) ∧ (gA G 261 0 (y)) ≤ (gA G 262 0 (y)) ∧ (gA G 261 0 (y)) ≤ (gF G 12 0 0) ∧ ((gA G 218 0 (x)) < 0 ∨ (0 ≤ (gA G 218 0 (x)) ∧ (gA G 217 0 (x)) ≤ (gA G 218 0 (x)) ∧ (gA G 261 0 (y)) ≤ (gA G 218 0 (x))))) → (gA G 216 0 (x)) = (gA G 260 0 (y)))) ∧ ∀ y, 0 ≤ y → y < t → ((gA G 215 0 (s)) = p → ((gA G 217 0 (s)) ≤ (gA G 262 0 (y)) ∧ (gA G 217 0 (s)) ≤ (gF G 12 0 0) ∧ (gA G 261 0 (y)) ≤ (gA G 262 0 (y)) ∧ (gA G 261 0 (y)) ≤ (gF G 12 0 0) ∧ ((gA G 218 0 (s)) < 0 ∨ (0 ≤ (gA G 218 0 (s)) ∧ (gA G 217 0 (s)) ≤ (gA G 218 0 (s)) ∧ (gA G 261 0 (y)) ≤ (gA G 218 0 (s))))) → (gA G 216 0 (s)) = (gA G 260 0 (y))))) with q | q; exact absurd (hw.trans q) h149; exact hw.trans q
                            have hA := b2i_eq1.mp (hw.symm.trans hv1)
                            refine pw_iload r_12_couldBe_152 rfl ?_
                            refine pw_if_eq r_12_couldBe_154 (fun h154 => ?_) (fun h154 => ?_)
                            · skip
                              refine pw_const r_12_couldBe_173 ?_
                              refine pw_goto r_12_couldBe_174 ?_
                              refine pw_istore (ls' := [some (vR 12 (0)), some (vI (p)), some (vI (1)), some (vI (s)), some (vI (z)), some (vI (t)), some (vI (gF G 12 (0) 0)), some (vI (gA G 261 (0) (t))), some (vI (0))]) r_12_couldBe_178 rfl rfl ?_
                              refine pw_iinc (b := 0) (ls' := [some (vR 12 (0)), some (vI (p)), some (vI (1)), some (vI (s)), some (vI (z)), some (vI ((t + 1))), some (vI (gF G 12 (0) 0)), some (vI (gA G 261 (0) (t))), some (vI (0))]) r_12_couldBe_179 rfl rfl (by omega) rfl ?_
                              refine pw_goto r_12_couldBe_182 ?_
                              refine pw_weakL (ls' := [some (vR 12 (0)), some (vI (p)), some (vI (1)), some (vI (s)), some (vI (z)), some (vI ((t + 1))), none, none, none]) (⟨rfl, ⟨rfl, ⟨rfl, ⟨rfl, ⟨rfl, ⟨rfl, trivial⟩⟩⟩⟩⟩⟩) ?_
                              exact ih39 ((t + 1)) (z) (1) (by omega) (hz) (by first | exact (b2i_t ⟨hA.1, all_s hA.2 (by intro _ _; omega)⟩).symm | exact (b2i_f (fun q => h149n ⟨q.1, fun y a b => q.2 y a (by omega)⟩)).symm | exact (b2i_f (fun q => by have := q.2 t (by omega) (by omega); omega)).symm) (by omega)
                            · skip
                              refine pw_aload r_12_couldBe_157 rfl ?_
                              refine pw_getR r_12_couldBe_158 fs_12_19 (by decide) ?_
                              refine pw_iload r_12_couldBe_161 rfl ?_
                              refine pw_iald r_12_couldBe_162 sh216 (by omega) (by omega) ?_
                              refine pw_aload r_12_couldBe_163 rfl ?_
                              refine pw_getR r_12_couldBe_164 fs_12_88 (by decide) ?_
                              refine pw_iload r_12_couldBe_167 rfl ?_
                              refine pw_iald r_12_couldBe_169 sh260 (by omega) (by omega) ?_
                              refine pw_icmp_ne r_12_couldBe_170 (fun h170 => ?_) (fun h170 => ?_)
                              · skip
                                refine pw_const r_12_couldBe_177 ?_
                                refine pw_istore (ls' := [some (vR 12 (0)), some (vI (p)), some (vI (0)), some (vI (s)), some (vI (z)), some (vI (t)), some (vI (gF G 12 (0) 0)), some (vI (gA G 261 (0) (t))), some (vI (0))]) r_12_couldBe_178 rfl rfl ?_
                                refine pw_iinc (b := 0) (ls' := [some (vR 12 (0)), some (vI (p)), some (vI (0)), some (vI (s)), some (vI (z)), some (vI ((t + 1))), some (vI (gF G 12 (0) 0)), some (vI (gA G 261 (0) (t))), some (vI (0))]) r_12_couldBe_179 rfl rfl (by omega) rfl ?_
                                refine pw_goto r_12_couldBe_182 ?_
                                refine pw_weakL (ls' := [some (vR 12 (0)), some (vI (p)), some (vI (0)), some (vI (s)), some (vI (z)), some (vI ((t + 1))), none, none, none]) (⟨rfl, ⟨rfl, ⟨rfl, ⟨rfl, ⟨rfl, ⟨rfl, trivial⟩⟩⟩⟩⟩⟩) ?_
                                exact ih39 ((t + 1)) (z) (0) (by omega) (hz) (by first | exact (b2i_t ⟨hA.1, all_s hA.2 (by intro _ _; omega)⟩).symm | exact (b2i_f (fun q => h149n ⟨q.1, fun y a b => q.2 y a (by omega)⟩)).symm | exact (b2i_f (fun q => by have := q.2 t (by omega) (by omega); omega)).symm) (by omega)
                              · skip
                                refine pw_const r_12_couldBe_173 ?_
                                refine pw_goto r_12_couldBe_174 ?_
                                refine pw_istore (ls' := [some (vR 12 (0)), some (vI (p)), some (vI (1)), some (vI (s)), some (vI (z)), some (vI (t)), some (vI (gF G 12 (0) 0)), some (vI (gA G 261 (0) (t))), some (vI (0))]) r_12_couldBe_178 rfl rfl ?_
                                refine pw_iinc (b := 0) (ls' := [some (vR 12 (0)), some (vI (p)), some (vI (1)), some (vI (s)), some (vI (z)), some (vI ((t + 1))), some (vI (gF G 12 (0) 0)), some (vI (gA G 261 (0) (t))), some (vI (0))]) r_12_couldBe_179 rfl rfl (by omega) rfl ?_
                                refine pw_goto r_12_couldBe_182 ?_
                                refine pw_weakL (ls' := [some (vR 12 (0)), some (vI (p)), some (vI (1)), some (vI (s)), some (vI (z)), some (vI ((t + 1))), none, none, none]) (⟨rfl, ⟨rfl, ⟨rfl, ⟨rfl, ⟨rfl, ⟨rfl, trivial⟩⟩⟩⟩⟩⟩) ?_
                                exact ih39 ((t + 1)) (z) (1) (by omega) (hz) (by first | exact (b2i_t ⟨hA.1, all_s hA.2 (by intro _ _; omega)⟩).symm | exact (b2i_f (fun q => h149n ⟨q.1, fun y a b => q.2 y a (by omega)⟩)).symm | exact (b2i_f (fun q => by have := q.2 t (by omega) (by omega); omega)).symm) (by omega)
                        · skip
                          refine pw_const r_12_couldBe_141 ?_
                          refine pw_goto r_12_couldBe_142 ?_
                          refine pw_istore (ls' := [some (vR 12 (0)), some (vI (p)), some (vI (v)), some (vI (s)), some (vI (z)), some (vI (t)), some (vI (gF G 12 (0) 0)), some (vI (gA G 261 (0) (t))), some (vI (1))]) r_12_couldBe_146 rfl rfl ?_
                          refine pw_iload r_12_couldBe_148 rfl ?_
                          refine pw_if_eq r_12_couldBe_149 (fun h149 => ?_) (fun h149 => ?_)
                          · skip
                            have h149n := b2i_eq0.mp (hw.symm.trans h149)
                            refine pw_const r_12_couldBe_177 ?_
                            refine pw_istore (ls' := [some (vR 12 (0)), some (vI (p)), some (vI (0)), some (vI (s)), some (vI (z)), some (vI (t)), some (vI (gF G 12 (0) 0)), some (vI (gA G 261 (0) (t))), some (vI (1))]) r_12_couldBe_178 rfl rfl ?_
                            refine pw_iinc (b := 0) (ls' := [some (vR 12 (0)), some (vI (p)), some (vI (0)), some (vI (s)), some (vI (z)), some (vI ((t + 1))), some (vI (gF G 12 (0) 0)), some (vI (gA G 261 (0) (t))), some (vI (1))]) r_12_couldBe_179 rfl rfl (by omega) rfl ?_
                            refine pw_goto r_12_couldBe_182 ?_
                            refine pw_weakL (ls' := [some (vR 12 (0)), some (vI (p)), some (vI (0)), some (vI (s)), some (vI (z)), some (vI ((t + 1))), none, none, none]) (⟨rfl, ⟨rfl, ⟨rfl, ⟨rfl, ⟨rfl, ⟨rfl, trivial⟩⟩⟩⟩⟩⟩) ?_
                            exact ih39 ((t + 1)) (z) (0) (by omega) (hz) (by first | exact (b2i_t ⟨hA.1, all_s hA.2 (by intro _ _; omega)⟩).symm | exact (b2i_f (fun q => h149n ⟨q.1, fun y a b => q.2 y a (by omega)⟩)).symm | exact (b2i_f (fun q => by have := q.2 t (by omega) (by omega); omega)).symm) (by omega)
                          · skip
                            have hv1 : v = 1 := by rcases b2i_01 (((∀ x, 0 ≤ x → x < s → ∀ y, 0 ≤ y → y < (gF G 12 0 91) → ((gA G 215 0 (x)) = p → ((gA G 217 0 (x)) ≤ (gA G 262 0 (y)) ∧ (gA G 217 0 (x)) ≤ (gF G 12 0 0) ∧ (gA G 261 0 (y)) ≤ (gA G 262 0 (y)) ∧ (gA G 261 0 (y)) ≤ (gF G 12 0 0) ∧ ((gA G 218 0 (x)) < 0 ∨ (0 ≤ (gA G 218 0 (x)) ∧ (gA G 217 0 (x)) ≤ (gA G 218 0 (x)) ∧ (gA G 261 0 (y)) ≤ (gA G 218 0 (x))))) → (gA G 216 0 (x)) = (gA G 260 0 (y)))) ∧ ∀ y, 0 ≤ y → y < t → ((gA G 215 0 (s)) = p → ((gA G 217 0 (s)) ≤ (gA G 262 0 (y)) ∧ (gA G 217 0 (s)) ≤ (gF G 12 0 0) ∧ (gA G 261 0 (y)) ≤ (gA G 262 0 (y)) ∧ (gA G 261 0 (y)) ≤ (gF G 12 0 0) ∧ ((gA G 218 0 (s)) < 0 ∨ (0 ≤ (gA G 218 0 (s)) ∧ (gA G 217 0 (s)) ≤ (gA G 218 0 (s)) ∧ (gA G 261 0 (y)) ≤ (gA G 218 0 (s))))) → (gA G 216 0 (s)) = (gA G 260 0 (y))))) with q | q; exact absurd (hw.trans q) h149; exact hw.trans q
                            have hA := b2i_eq1.mp (hw.symm.trans hv1)
                            refine pw_iload r_12_couldBe_152 rfl ?_
                            refine pw_if_eq r_12_couldBe_154 (fun h154 => ?_) (fun h154 => ?_)
                            · skip
                              refine pw_const r_12_couldBe_173 ?_
                              refine pw_goto r_12_couldBe_174 ?_
                              refine pw_istore (ls' := [some (vR 12 (0)), some (vI (p)), some (vI (1)), some (vI (s)), some (vI (z)), some (vI (t)), some (vI (gF G 12 (0) 0)), some (vI (gA G 261 (0) (t))), some (vI (1))]) r_12_couldBe_178 rfl rfl ?_
                              refine pw_iinc (b := 0) (ls' := [some (vR 12 (0)), some (vI (p)), some (vI (1)), some (vI (s)), some (vI (z)), some (vI ((t + 1))), some (vI (gF G 12 (0) 0)), some (vI (gA G 261 (0) (t))), some (vI (1))]) r_12_couldBe_179 rfl rfl (by omega) rfl ?_
                              refine pw_goto r_12_couldBe_182 ?_
                              refine pw_weakL (ls' := [some (vR 12 (0)), some (vI (p)), some (vI (1)), some (vI (s)), some (vI (z)), some (vI ((t + 1))), none, none, none]) (⟨rfl, ⟨rfl, ⟨rfl, ⟨rfl, ⟨rfl, ⟨rfl, trivial⟩⟩⟩⟩⟩⟩) ?_
                              exact ih39 ((t + 1)) (z) (1) (by omega) (hz) (by first | exact (b2i_t ⟨hA.1, all_s hA.2 (by intro _ _; omega)⟩).symm | exact (b2i_f (fun q => h149n ⟨q.1, fun y a b => q.2 y a (by omega)⟩)).symm | exact (b2i_f (fun q => by have := q.2 t (by omega) (by omega); omega)).symm) (by omega)
                            · skip
                              refine pw_aload r_12_couldBe_157 rfl ?_
                              refine pw_getR r_12_couldBe_158 fs_12_19 (by decide) ?_
                              refine pw_iload r_12_couldBe_161 rfl ?_
                              refine pw_iald r_12_couldBe_162 sh216 (by omega) (by omega) ?_
                              refine pw_aload r_12_couldBe_163 rfl ?_
                              refine pw_getR r_12_couldBe_164 fs_12_88 (by decide) ?_
                              refine pw_iload r_12_couldBe_167 rfl ?_
                              refine pw_iald r_12_couldBe_169 sh260 (by omega) (by omega) ?_
                              refine pw_icmp_ne r_12_couldBe_170 (fun h170 => ?_) (fun h170 => ?_)
                              · skip
                                refine pw_const r_12_couldBe_177 ?_
                                refine pw_istore (ls' := [some (vR 12 (0)), some (vI (p)), some (vI (0)), some (vI (s)), some (vI (z)), some (vI (t)), some (vI (gF G 12 (0) 0)), some (vI (gA G 261 (0) (t))), some (vI (1))]) r_12_couldBe_178 rfl rfl ?_
                                refine pw_iinc (b := 0) (ls' := [some (vR 12 (0)), some (vI (p)), some (vI (0)), some (vI (s)), some (vI (z)), some (vI ((t + 1))), some (vI (gF G 12 (0) 0)), some (vI (gA G 261 (0) (t))), some (vI (1))]) r_12_couldBe_179 rfl rfl (by omega) rfl ?_
                                refine pw_goto r_12_couldBe_182 ?_
                                refine pw_weakL (ls' := [some (vR 12 (0)), some (vI (p)), some (vI (0)), some (vI (s)), some (vI (z)), some (vI ((t + 1))), none, none, none]) (⟨rfl, ⟨rfl, ⟨rfl, ⟨rfl, ⟨rfl, ⟨rfl, trivial⟩⟩⟩⟩⟩⟩) ?_
                                exact ih39 ((t + 1)) (z) (0) (by omega) (hz) (by first | exact (b2i_t ⟨hA.1, all_s hA.2 (by intro _ _; omega)⟩).symm | exact (b2i_f (fun q => h149n ⟨q.1, fun y a b => q.2 y a (by omega)⟩)).symm | exact (b2i_f (fun q => by have := q.2 t (by omega) (by omega); omega)).symm) (by omega)
                              · skip
                                refine pw_const r_12_couldBe_173 ?_
                                refine pw_goto r_12_couldBe_174 ?_
                                refine pw_istore (ls' := [some (vR 12 (0)), some (vI (p)), some (vI (1)), some (vI (s)), some (vI (z)), some (vI (t)), some (vI (gF G 12 (0) 0)), some (vI (gA G 261 (0) (t))), some (vI (1))]) r_12_couldBe_178 rfl rfl ?_
                                refine pw_iinc (b := 0) (ls' := [some (vR 12 (0)), some (vI (p)), some (vI (1)), some (vI (s)), some (vI (z)), some (vI ((t + 1))), some (vI (gF G 12 (0) 0)), some (vI (gA G 261 (0) (t))), some (vI (1))]) r_12_couldBe_179 rfl rfl (by omega) rfl ?_
                                refine pw_goto r_12_couldBe_182 ?_
                                refine pw_weakL (ls' := [some (vR 12 (0)), some (vI (p)), some (vI (1)), some (vI (s)), some (vI (z)), some (vI ((t + 1))), none, none, none]) (⟨rfl, ⟨rfl, ⟨rfl, ⟨rfl, ⟨rfl, ⟨rfl, trivial⟩⟩⟩⟩⟩⟩) ?_
                                exact ih39 ((t + 1)) (z) (1) (by omega) (hz) (by first | exact (b2i_t ⟨hA.1, all_s hA.2 (by intro _ _; omega)⟩).symm | exact (b2i_f (fun q => h149n ⟨q.1, fun y a b => q.2 y a (by omega)⟩)).symm | exact (b2i_f (fun q => by have := q.2 t (by omega) (by omega); omega)).symm) (by omega)
                    · skip
                      refine pw_aload r_12_couldBe_104 rfl ?_
                      refine pw_getR r_12_couldBe_105 fs_12_20 (by decide) ?_
                      refine pw_iload r_12_couldBe_108 rfl ?_
                      refine pw_iald r_12_couldBe_109 sh217 (by omega) (by omega) ?_
                      refine pw_goto r_12_couldBe_110 ?_
                      refine pw_istore (ls' := [some (vR 12 (0)), some (vI (p)), some (vI (v)), some (vI (s)), some (vI (z)), some (vI (t)), some (vI (gF G 12 (0) 0)), some (vI (gA G 217 (0) (s))), none]) r_12_couldBe_120 rfl rfl ?_
                      refine pw_iload r_12_couldBe_122 rfl ?_
                      refine pw_iload r_12_couldBe_124 rfl ?_
                      refine pw_iload r_12_couldBe_126 rfl ?_
                      refine pw_icmp_ge r_12_couldBe_128 (fun h128 => ?_) (fun h128 => ?_)
                      · skip
                        refine pw_iload r_12_couldBe_136 rfl ?_
                        refine pw_icmp_gt r_12_couldBe_138 (fun h138 => ?_) (fun h138 => ?_)
                        · skip
                          refine pw_const r_12_couldBe_145 ?_
                          refine pw_istore (ls' := [some (vR 12 (0)), some (vI (p)), some (vI (v)), some (vI (s)), some (vI (z)), some (vI (t)), some (vI (gF G 12 (0) 0)), some (vI (gA G 217 (0) (s))), some (vI (0))]) r_12_couldBe_146 rfl rfl ?_
                          refine pw_iload r_12_couldBe_148 rfl ?_
                          refine pw_if_eq r_12_couldBe_149 (fun h149 => ?_) (fun h149 => ?_)
                          · skip
                            have h149n := b2i_eq0.mp (hw.symm.trans h149)
                            refine pw_const r_12_couldBe_177 ?_
                            refine pw_istore (ls' := [some (vR 12 (0)), some (vI (p)), some (vI (0)), some (vI (s)), some (vI (z)), some (vI (t)), some (vI (gF G 12 (0) 0)), some (vI (gA G 217 (0) (s))), some (vI (0))]) r_12_couldBe_178 rfl rfl ?_
                            refine pw_iinc (b := 0) (ls' := [some (vR 12 (0)), some (vI (p)), some (vI (0)), some (vI (s)), some (vI (z)), some (vI ((t + 1))), some (vI (gF G 12 (0) 0)), some (vI (gA G 217 (0) (s))), some (vI (0))]) r_12_couldBe_179 rfl rfl (by omega) rfl ?_
                            refine pw_goto r_12_couldBe_182 ?_
                            refine pw_weakL (ls' := [some (vR 12 (0)), some (vI (p)), some (vI (0)), some (vI (s)), some (vI (z)), some (vI ((t + 1))), none, none, none]) (⟨rfl, ⟨rfl, ⟨rfl, ⟨rfl, ⟨rfl, ⟨rfl, trivial⟩⟩⟩⟩⟩⟩) ?_
                            exact ih39 ((t + 1)) (z) (0) (by omega) (hz) (by first | exact (b2i_t ⟨hA.1, all_s hA.2 (by intro _ _; omega)⟩).symm | exact (b2i_f (fun q => h149n ⟨q.1, fun y a b => q.2 y a (by omega)⟩)).symm | exact (b2i_f (fun q => by have := q.2 t (by omega) (by omega); omega)).symm) (by omega)
                          · skip
                            have hv1 : v = 1 := by rcases b2i_01 (((∀ x, 0 ≤ x → x < s → ∀ y, 0 ≤ y → y < (gF G 12 0 91) → ((gA G 215 0 (x)) = p → ((gA G 217 0 (x)) ≤ (gA G 262 0 (y)) ∧ (gA G 217 0 (x)) ≤ (gF G 12 0 0) ∧ (gA G 261 0 (y)) ≤ (gA G 262 0 (y)) ∧ (gA G 261 0 (y)) ≤ (gF G 12 0 0) ∧ ((gA G 218 0 (x)) < 0 ∨ (0 ≤ (gA G 218 0 (x)) ∧ (gA G 217 0 (x)) ≤ (gA G 218 0 (x)) ∧ (gA G 261 0 (y)) ≤ (gA G 218 0 (x))))) → (gA G 216 0 (x)) = (gA G 260 0 (y)))) ∧ ∀ y, 0 ≤ y → y < t → ((gA G 215 0 (s)) = p → ((gA G 217 0 (s)) ≤ (gA G 262 0 (y)) ∧ (gA G 217 0 (s)) ≤ (gF G 12 0 0) ∧ (gA G 261 0 (y)) ≤ (gA G 262 0 (y)) ∧ (gA G 261 0 (y)) ≤ (gF G 12 0 0) ∧ ((gA G 218 0 (s)) < 0 ∨ (0 ≤ (gA G 218 0 (s)) ∧ (gA G 217 0 (s)) ≤ (gA G 218 0 (s)) ∧ (gA G 261 0 (y)) ≤ (gA G 218 0 (s))))) → (gA G 216 0 (s)) = (gA G 260 0 (y))))) with q | q; exact absurd (hw.trans q) h149; exact hw.trans q
                            have hA := b2i_eq1.mp (hw.symm.trans hv1)
                            refine pw_iload r_12_couldBe_152 rfl ?_
                            refine pw_if_eq r_12_couldBe_154 (fun h154 => ?_) (fun h154 => ?_)
                            · skip
                              refine pw_const r_12_couldBe_173 ?_
                              refine pw_goto r_12_couldBe_174 ?_
                              refine pw_istore (ls' := [some (vR 12 (0)), some (vI (p)), some (vI (1)), some (vI (s)), some (vI (z)), some (vI (t)), some (vI (gF G 12 (0) 0)), some (vI (gA G 217 (0) (s))), some (vI (0))]) r_12_couldBe_178 rfl rfl ?_
                              refine pw_iinc (b := 0) (ls' := [some (vR 12 (0)), some (vI (p)), some (vI (1)), some (vI (s)), some (vI (z)), some (vI ((t + 1))), some (vI (gF G 12 (0) 0)), some (vI (gA G 217 (0) (s))), some (vI (0))]) r_12_couldBe_179 rfl rfl (by omega) rfl ?_
                              refine pw_goto r_12_couldBe_182 ?_
                              refine pw_weakL (ls' := [some (vR 12 (0)), some (vI (p)), some (vI (1)), some (vI (s)), some (vI (z)), some (vI ((t + 1))), none, none, none]) (⟨rfl, ⟨rfl, ⟨rfl, ⟨rfl, ⟨rfl, ⟨rfl, trivial⟩⟩⟩⟩⟩⟩) ?_
                              exact ih39 ((t + 1)) (z) (1) (by omega) (hz) (by first | exact (b2i_t ⟨hA.1, all_s hA.2 (by intro _ _; omega)⟩).symm | exact (b2i_f (fun q => h149n ⟨q.1, fun y a b => q.2 y a (by omega)⟩)).symm | exact (b2i_f (fun q => by have := q.2 t (by omega) (by omega); omega)).symm) (by omega)
                            · skip
                              refine pw_aload r_12_couldBe_157 rfl ?_
                              refine pw_getR r_12_couldBe_158 fs_12_19 (by decide) ?_
                              refine pw_iload r_12_couldBe_161 rfl ?_
                              refine pw_iald r_12_couldBe_162 sh216 (by omega) (by omega) ?_
                              refine pw_aload r_12_couldBe_163 rfl ?_
                              refine pw_getR r_12_couldBe_164 fs_12_88 (by decide) ?_
                              refine pw_iload r_12_couldBe_167 rfl ?_
                              refine pw_iald r_12_couldBe_169 sh260 (by omega) (by omega) ?_
                              refine pw_icmp_ne r_12_couldBe_170 (fun h170 => ?_) (fun h170 => ?_)
                              · skip
                                refine pw_const r_12_couldBe_177 ?_
                                refine pw_istore (ls' := [some (vR 12 (0)), some (vI (p)), some (vI (0)), some (vI (s)), some (vI (z)), some (vI (t)), some (vI (gF G 12 (0) 0)), some (vI (gA G 217 (0) (s))), some (vI (0))]) r_12_couldBe_178 rfl rfl ?_
                                refine pw_iinc (b := 0) (ls' := [some (vR 12 (0)), some (vI (p)), some (vI (0)), some (vI (s)), some (vI (z)), some (vI ((t + 1))), some (vI (gF G 12 (0) 0)), some (vI (gA G 217 (0) (s))), some (vI (0))]) r_12_couldBe_179 rfl rfl (by omega) rfl ?_
                                refine pw_goto r_12_couldBe_182 ?_
                                refine pw_weakL (ls' := [some (vR 12 (0)), some (vI (p)), some (vI (0)), some (vI (s)), some (vI (z)), some (vI ((t + 1))), none, none, none]) (⟨rfl, ⟨rfl, ⟨rfl, ⟨rfl, ⟨rfl, ⟨rfl, trivial⟩⟩⟩⟩⟩⟩) ?_
                                exact ih39 ((t + 1)) (z) (0) (by omega) (hz) (by first | exact (b2i_t ⟨hA.1, all_s hA.2 (by intro _ _; omega)⟩).symm | exact (b2i_f (fun q => h149n ⟨q.1, fun y a b => q.2 y a (by omega)⟩)).symm | exact (b2i_f (fun q => by have := q.2 t (by omega) (by omega); omega)).symm) (by omega)
                              · skip
                                refine pw_const r_12_couldBe_173 ?_
                                refine pw_goto r_12_couldBe_174 ?_
                                refine pw_istore (ls' := [some (vR 12 (0)), some (vI (p)), some (vI (1)), some (vI (s)), some (vI (z)), some (vI (t)), some (vI (gF G 12 (0) 0)), some (vI (gA G 217 (0) (s))), some (vI (0))]) r_12_couldBe_178 rfl rfl ?_
                                refine pw_iinc (b := 0) (ls' := [some (vR 12 (0)), some (vI (p)), some (vI (1)), some (vI (s)), some (vI (z)), some (vI ((t + 1))), some (vI (gF G 12 (0) 0)), some (vI (gA G 217 (0) (s))), some (vI (0))]) r_12_couldBe_179 rfl rfl (by omega) rfl ?_
                                refine pw_goto r_12_couldBe_182 ?_
                                refine pw_weakL (ls' := [some (vR 12 (0)), some (vI (p)), some (vI (1)), some (vI (s)), some (vI (z)), some (vI ((t + 1))), none, none, none]) (⟨rfl, ⟨rfl, ⟨rfl, ⟨rfl, ⟨rfl, ⟨rfl, trivial⟩⟩⟩⟩⟩⟩) ?_
                                exact ih39 ((t + 1)) (z) (1) (by omega) (hz) (by first | exact (b2i_t ⟨hA.1, all_s hA.2 (by intro _ _; omega)⟩).symm | exact (b2i_f (fun q => h149n ⟨q.1, fun y a b => q.2 y a (by omega)⟩)).symm | exact (b2i_f (fun q => by have := q.2 t (by omega) (by omega); omega)).symm) (by omega)
                        · skip
                          refine pw_const r_12_couldBe_141 ?_
                          refine pw_goto r_12_couldBe_142 ?_
                          refine pw_istore (ls' := [some (vR 12 (0)), some (vI (p)), some (vI (v)), some (vI (s)), some (vI (z)), some (vI (t)), some (vI (gF G 12 (0) 0)), some (vI (gA G 217 (0) (s))), some (vI (1))]) r_12_couldBe_146 rfl rfl ?_
                          refine pw_iload r_12_couldBe_148 rfl ?_
                          refine pw_if_eq r_12_couldBe_149 (fun h149 => ?_) (fun h149 => ?_)
                          · skip
                            have h149n := b2i_eq0.mp (hw.symm.trans h149)
                            refine pw_const r_12_couldBe_177 ?_
                            refine pw_istore (ls' := [some (vR 12 (0)), some (vI (p)), some (vI (0)), some (vI (s)), some (vI (z)), some (vI (t)), some (vI (gF G 12 (0) 0)), some (vI (gA G 217 (0) (s))), some (vI (1))]) r_12_couldBe_178 rfl rfl ?_
                            refine pw_iinc (b := 0) (ls' := [some (vR 12 (0)), some (vI (p)), some (vI (0)), some (vI (s)), some (vI (z)), some (vI ((t + 1))), some (vI (gF G 12 (0) 0)), some (vI (gA G 217 (0) (s))), some (vI (1))]) r_12_couldBe_179 rfl rfl (by omega) rfl ?_
                            refine pw_goto r_12_couldBe_182 ?_
                            refine pw_weakL (ls' := [some (vR 12 (0)), some (vI (p)), some (vI (0)), some (vI (s)), some (vI (z)), some (vI ((t + 1))), none, none, none]) (⟨rfl, ⟨rfl, ⟨rfl, ⟨rfl, ⟨rfl, ⟨rfl, trivial⟩⟩⟩⟩⟩⟩) ?_
                            exact ih39 ((t + 1)) (z) (0) (by omega) (hz) (by first | exact (b2i_t ⟨hA.1, all_s hA.2 (by intro _ _; omega)⟩).symm | exact (b2i_f (fun q => h149n ⟨q.1, fun y a b => q.2 y a (by omega)⟩)).symm | exact (b2i_f (fun q => by have := q.2 t (by omega) (by omega); omega)).symm) (by omega)
                          · skip
                            have hv1 : v = 1 := by rcases b2i_01 (((∀ x, 0 ≤ x → x < s → ∀ y, 0 ≤ y → y < (gF G 12 0 91) → ((gA G 215 0 (x)) = p → ((gA G 217 0 (x)) ≤ (gA G 262 0 (y)) ∧ (gA G 217 0 (x)) ≤ (gF G 12 0 0) ∧ (gA G 261 0 (y)) ≤ (gA G 262 0 (y)) ∧ (gA G 261 0 (y)) ≤ (gF G 12 0 0) ∧ ((gA G 218 0 (x)) < 0 ∨ (0 ≤ (gA G 218 0 (x)) ∧ (gA G 217 0 (x)) ≤ (gA G 218 0 (x)) ∧ (gA G 261 0 (y)) ≤ (gA G 218 0 (x))))) → (gA G 216 0 (x)) = (gA G 260 0 (y)))) ∧ ∀ y, 0 ≤ y → y < t → ((gA G 215 0 (s)) = p → ((gA G 217 0 (s)) ≤ (gA G 262 0 (y)) ∧ (gA G 217 0 (s)) ≤ (gF G 12 0 0) ∧ (gA G 261 0 (y)) ≤ (gA G 262 0 (y)) ∧ (gA G 261 0 (y)) ≤ (gF G 12 0 0) ∧ ((gA G 218 0 (s)) < 0 ∨ (0 ≤ (gA G 218 0 (s)) ∧ (gA G 217 0 (s)) ≤ (gA G 218 0 (s)) ∧ (gA G 261 0 (y)) ≤ (gA G 218 0 (s))))) → (gA G 216 0 (s)) = (gA G 260 0 (y))))) with q | q; exact absurd (hw.trans q) h149; exact hw.trans q
                            have hA := b2i_eq1.mp (hw.symm.trans hv1)
                            refine pw_iload r_12_couldBe_152 rfl ?_
                            refine pw_if_eq r_12_couldBe_154 (fun h154 => ?_) (fun h154 => ?_)
                            · skip
                              refine pw_const r_12_couldBe_173 ?_
                              refine pw_goto r_12_couldBe_174 ?_
                              refine pw_istore (ls' := [some (vR 12 (0)), some (vI (p)), some (vI (1)), some (vI (s)), some (vI (z)), some (vI (t)), some (vI (gF G 12 (0) 0)), some (vI (gA G 217 (0) (s))), some (vI (1))]) r_12_couldBe_178 rfl rfl ?_
                              refine pw_iinc (b := 0) (ls' := [some (vR 12 (0)), some (vI (p)), some (vI (1)), some (vI (s)), some (vI (z)), some (vI ((t + 1))), some (vI (gF G 12 (0) 0)), some (vI (gA G 217 (0) (s))), some (vI (1))]) r_12_couldBe_179 rfl rfl (by omega) rfl ?_
                              refine pw_goto r_12_couldBe_182 ?_
                              refine pw_weakL (ls' := [some (vR 12 (0)), some (vI (p)), some (vI (1)), some (vI (s)), some (vI (z)), some (vI ((t + 1))), none, none, none]) (⟨rfl, ⟨rfl, ⟨rfl, ⟨rfl, ⟨rfl, ⟨rfl, trivial⟩⟩⟩⟩⟩⟩) ?_
                              exact ih39 ((t + 1)) (z) (1) (by omega) (hz) (by first | exact (b2i_t ⟨hA.1, all_s hA.2 (by intro _ _; omega)⟩).symm | exact (b2i_f (fun q => h149n ⟨q.1, fun y a b => q.2 y a (by omega)⟩)).symm | exact (b2i_f (fun q => by have := q.2 t (by omega) (by omega); omega)).symm) (by omega)
                            · skip
                              refine pw_aload r_12_couldBe_157 rfl ?_
                              refine pw_getR r_12_couldBe_158 fs_12_19 (by decide) ?_
                              refine pw_iload r_12_couldBe_161 rfl ?_
                              refine pw_iald r_12_couldBe_162 sh216 (by omega) (by omega) ?_
                              refine pw_aload r_12_couldBe_163 rfl ?_
                              refine pw_getR r_12_couldBe_164 fs_12_88 (by decide) ?_
                              refine pw_iload r_12_couldBe_167 rfl ?_
                              refine pw_iald r_12_couldBe_169 sh260 (by omega) (by omega) ?_
                              refine pw_icmp_ne r_12_couldBe_170 (fun h170 => ?_) (fun h170 => ?_)
                              · skip
                                refine pw_const r_12_couldBe_177 ?_
                                refine pw_istore (ls' := [some (vR 12 (0)), some (vI (p)), some (vI (0)), some (vI (s)), some (vI (z)), some (vI (t)), some (vI (gF G 12 (0) 0)), some (vI (gA G 217 (0) (s))), some (vI (1))]) r_12_couldBe_178 rfl rfl ?_
                                refine pw_iinc (b := 0) (ls' := [some (vR 12 (0)), some (vI (p)), some (vI (0)), some (vI (s)), some (vI (z)), some (vI ((t + 1))), some (vI (gF G 12 (0) 0)), some (vI (gA G 217 (0) (s))), some (vI (1))]) r_12_couldBe_179 rfl rfl (by omega) rfl ?_
                                refine pw_goto r_12_couldBe_182 ?_
                                refine pw_weakL (ls' := [some (vR 12 (0)), some (vI (p)), some (vI (0)), some (vI (s)), some (vI (z)), some (vI ((t + 1))), none, none, none]) (⟨rfl, ⟨rfl, ⟨rfl, ⟨rfl, ⟨rfl, ⟨rfl, trivial⟩⟩⟩⟩⟩⟩) ?_
                                exact ih39 ((t + 1)) (z) (0) (by omega) (hz) (by first | exact (b2i_t ⟨hA.1, all_s hA.2 (by intro _ _; omega)⟩).symm | exact (b2i_f (fun q => h149n ⟨q.1, fun y a b => q.2 y a (by omega)⟩)).symm | exact (b2i_f (fun q => by have := q.2 t (by omega) (by omega); omega)).symm) (by omega)
                              · skip
                                refine pw_const r_12_couldBe_173 ?_
                                refine pw_goto r_12_couldBe_174 ?_
                                refine pw_istore (ls' := [some (vR 12 (0)), some (vI (p)), some (vI (1)), some (vI (s)), some (vI (z)), some (vI (t)), some (vI (gF G 12 (0) 0)), some (vI (gA G 217 (0) (s))), some (vI (1))]) r_12_couldBe_178 rfl rfl ?_
                                refine pw_iinc (b := 0) (ls' := [some (vR 12 (0)), some (vI (p)), some (vI (1)), some (vI (s)), some (vI (z)), some (vI ((t + 1))), some (vI (gF G 12 (0) 0)), some (vI (gA G 217 (0) (s))), some (vI (1))]) r_12_couldBe_179 rfl rfl (by omega) rfl ?_
                                refine pw_goto r_12_couldBe_182 ?_
                                refine pw_weakL (ls' := [some (vR 12 (0)), some (vI (p)), some (vI (1)), some (vI (s)), some (vI (z)), some (vI ((t + 1))), none, none, none]) (⟨rfl, ⟨rfl, ⟨rfl, ⟨rfl, ⟨rfl, ⟨rfl, trivial⟩⟩⟩⟩⟩⟩) ?_
                                exact ih39 ((t + 1)) (z) (1) (by omega) (hz) (by first | exact (b2i_t ⟨hA.1, all_s hA.2 (by intro _ _; omega)⟩).symm | exact (b2i_f (fun q => h149n ⟨q.1, fun y a b => q.2 y a (by omega)⟩)).symm | exact (b2i_f (fun q => by have := q.2 t (by omega) (by omega); omega)).symm) (by omega)
                      · skip
                        refine pw_iload r_12_couldBe_131 rfl ?_
                        refine pw_goto r_12_couldBe_133 ?_
                        refine pw_icmp_gt r_12_couldBe_138 (fun h138 => ?_) (fun h138 => ?_)
                        · skip
                          refine pw_const r_12_couldBe_145 ?_
                          refine pw_istore (ls' := [some (vR 12 (0)), some (vI (p)), some (vI (v)), some (vI (s)), some (vI (z)), some (vI (t)), some (vI (gF G 12 (0) 0)), some (vI (gA G 217 (0) (s))), some (vI (0))]) r_12_couldBe_146 rfl rfl ?_
                          refine pw_iload r_12_couldBe_148 rfl ?_
                          refine pw_if_eq r_12_couldBe_149 (fun h149 => ?_) (fun h149 => ?_)
                          · skip
                            have h149n := b2i_eq0.mp (hw.symm.trans h149)
                            refine pw_const r_12_couldBe_177 ?_
                            refine pw_istore (ls' := [some (vR 12 (0)), some (vI (p)), some (vI (0)), some (vI (s)), some (vI (z)), some (vI (t)), some (vI (gF G 12 (0) 0)), some (vI (gA G 217 (0) (s))), some (vI (0))]) r_12_couldBe_178 rfl rfl ?_
                            refine pw_iinc (b := 0) (ls' := [some (vR 12 (0)), some (vI (p)), some (vI (0)), some (vI (s)), some (vI (z)), some (vI ((t + 1))), some (vI (gF G 12 (0) 0)), some (vI (gA G 217 (0) (s))), some (vI (0))]) r_12_couldBe_179 rfl rfl (by omega) rfl ?_
                            refine pw_goto r_12_couldBe_182 ?_
                            refine pw_weakL (ls' := [some (vR 12 (0)), some (vI (p)), some (vI (0)), some (vI (s)), some (vI (z)), some (vI ((t + 1))), none, none, none]) (⟨rfl, ⟨rfl, ⟨rfl, ⟨rfl, ⟨rfl, ⟨rfl, trivial⟩⟩⟩⟩⟩⟩) ?_
                            exact ih39 ((t + 1)) (z) (0) (by omega) (hz) (by first | exact (b2i_t ⟨hA.1, all_s hA.2 (by intro _ _; omega)⟩).symm | exact (b2i_f (fun q => h149n ⟨q.1, fun y a b => q.2 y a (by omega)⟩)).symm | exact (b2i_f (fun q => by have := q.2 t (by omega) (by omega); omega)).symm) (by omega)
                          · skip
                            have hv1 : v = 1 := by rcases b2i_01 (((∀ x, 0 ≤ x → x < s → ∀ y, 0 ≤ y → y < (gF G 12 0 91) → ((gA G 215 0 (x)) = p → ((gA G 217 0 (x)) ≤ (gA G 262 0 (y)) ∧ (gA G 217 0 (x)) ≤ (gF G 12 0 0) ∧ (gA G 261 0 (y)) ≤ (gA G 262 0 (y)) ∧ (gA G 261 0 (y)) ≤ (gF G 12 0 0) ∧ ((gA G 218 0 (x)) < 0 ∨ (0 ≤ (gA G 218 0 (x)) ∧ (gA G 217 0 (x)) ≤ (gA G 218 0 (x)) ∧ (gA G 261 0 (y)) ≤ (gA G 218 0 (x))))) → (gA G 216 0 (x)) = (gA G 260 0 (y)))) ∧ ∀ y, 0 ≤ y → y < t → ((gA G 215 0 (s)) = p → ((gA G 217 0 (s)) ≤ (gA G 262 0 (y)) ∧ (gA G 217 0 (s)) ≤ (gF G 12 0 0) ∧ (gA G 261 0 (y)) ≤ (gA G 262 0 (y)) ∧ (gA G 261 0 (y)) ≤ (gF G 12 0 0) ∧ ((gA G 218 0 (s)) < 0 ∨ (0 ≤ (gA G 218 0 (s)) ∧ (gA G 217 0 (s)) ≤ (gA G 218 0 (s)) ∧ (gA G 261 0 (y)) ≤ (gA G 218 0 (s))))) → (gA G 216 0 (s)) = (gA G 260 0 (y))))) with q | q; exact absurd (hw.trans q) h149; exact hw.trans q
                            have hA := b2i_eq1.mp (hw.symm.trans hv1)
                            refine pw_iload r_12_couldBe_152 rfl ?_
                            refine pw_if_eq r_12_couldBe_154 (fun h154 => ?_) (fun h154 => ?_)
                            · skip
                              refine pw_const r_12_couldBe_173 ?_
                              refine pw_goto r_12_couldBe_174 ?_
                              refine pw_istore (ls' := [some (vR 12 (0)), some (vI (p)), some (vI (1)), some (vI (s)), some (vI (z)), some (vI (t)), some (vI (gF G 12 (0) 0)), some (vI (gA G 217 (0) (s))), some (vI (0))]) r_12_couldBe_178 rfl rfl ?_
                              refine pw_iinc (b := 0) (ls' := [some (vR 12 (0)), some (vI (p)), some (vI (1)), some (vI (s)), some (vI (z)), some (vI ((t + 1))), some (vI (gF G 12 (0) 0)), some (vI (gA G 217 (0) (s))), some (vI (0))]) r_12_couldBe_179 rfl rfl (by omega) rfl ?_
                              refine pw_goto r_12_couldBe_182 ?_
                              refine pw_weakL (ls' := [some (vR 12 (0)), some (vI (p)), some (vI (1)), some (vI (s)), some (vI (z)), some (vI ((t + 1))), none, none, none]) (⟨rfl, ⟨rfl, ⟨rfl, ⟨rfl, ⟨rfl, ⟨rfl, trivial⟩⟩⟩⟩⟩⟩) ?_
                              exact ih39 ((t + 1)) (z) (1) (by omega) (hz) (by first | exact (b2i_t ⟨hA.1, all_s hA.2 (by intro _ _; omega)⟩).symm | exact (b2i_f (fun q => h149n ⟨q.1, fun y a b => q.2 y a (by omega)⟩)).symm | exact (b2i_f (fun q => by have := q.2 t (by omega) (by omega); omega)).symm) (by omega)
                            · skip
                              refine pw_aload r_12_couldBe_157 rfl ?_
                              refine pw_getR r_12_couldBe_158 fs_12_19 (by decide) ?_
                              refine pw_iload r_12_couldBe_161 rfl ?_
                              refine pw_iald r_12_couldBe_162 sh216 (by omega) (by omega) ?_
                              refine pw_aload r_12_couldBe_163 rfl ?_
                              refine pw_getR r_12_couldBe_164 fs_12_88 (by decide) ?_
                              refine pw_iload r_12_couldBe_167 rfl ?_
                              refine pw_iald r_12_couldBe_169 sh260 (by omega) (by omega) ?_
                              refine pw_icmp_ne r_12_couldBe_170 (fun h170 => ?_) (fun h170 => ?_)
                              · skip
                                refine pw_const r_12_couldBe_177 ?_
                                refine pw_istore (ls' := [some (vR 12 (0)), some (vI (p)), some (vI (0)), some (vI (s)), some (vI (z)), some (vI (t)), some (vI (gF G 12 (0) 0)), some (vI (gA G 217 (0) (s))), some (vI (0))]) r_12_couldBe_178 rfl rfl ?_
                                refine pw_iinc (b := 0) (ls' := [some (vR 12 (0)), some (vI (p)), some (vI (0)), some (vI (s)), some (vI (z)), some (vI ((t + 1))), some (vI (gF G 12 (0) 0)), some (vI (gA G 217 (0) (s))), some (vI (0))]) r_12_couldBe_179 rfl rfl (by omega) rfl ?_
                                refine pw_goto r_12_couldBe_182 ?_
                                refine pw_weakL (ls' := [some (vR 12 (0)), some (vI (p)), some (vI (0)), some (vI (s)), some (vI (z)), some (vI ((t + 1))), none, none, none]) (⟨rfl, ⟨rfl, ⟨rfl, ⟨rfl, ⟨rfl, ⟨rfl, trivial⟩⟩⟩⟩⟩⟩) ?_
                                exact ih39 ((t + 1)) (z) (0) (by omega) (hz) (by first | exact (b2i_t ⟨hA.1, all_s hA.2 (by intro _ _; omega)⟩).symm | exact (b2i_f (fun q => h149n ⟨q.1, fun y a b => q.2 y a (by omega)⟩)).symm | exact (b2i_f (fun q => by have := q.2 t (by omega) (by omega); omega)).symm) (by omega)
                              · skip
                                refine pw_const r_12_couldBe_173 ?_
                                refine pw_goto r_12_couldBe_174 ?_
                                refine pw_istore (ls' := [some (vR 12 (0)), some (vI (p)), some (vI (1)), some (vI (s)), some (vI (z)), some (vI (t)), some (vI (gF G 12 (0) 0)), some (vI (gA G 217 (0) (s))), some (vI (0))]) r_12_couldBe_178 rfl rfl ?_
                                refine pw_iinc (b := 0) (ls' := [some (vR 12 (0)), some (vI (p)), some (vI (1)), some (vI (s)), some (vI (z)), some (vI ((t + 1))), some (vI (gF G 12 (0) 0)), some (vI (gA G 217 (0) (s))), some (vI (0))]) r_12_couldBe_179 rfl rfl (by omega) rfl ?_
                                refine pw_goto r_12_couldBe_182 ?_
                                refine pw_weakL (ls' := [some (vR 12 (0)), some (vI (p)), some (vI (1)), some (vI (s)), some (vI (z)), some (vI ((t + 1))), none, none, none]) (⟨rfl, ⟨rfl, ⟨rfl, ⟨rfl, ⟨rfl, ⟨rfl, trivial⟩⟩⟩⟩⟩⟩) ?_
                                exact ih39 ((t + 1)) (z) (1) (by omega) (hz) (by first | exact (b2i_t ⟨hA.1, all_s hA.2 (by intro _ _; omega)⟩).symm | exact (b2i_f (fun q => h149n ⟨q.1, fun y a b => q.2 y a (by omega)⟩)).symm | exact (b2i_f (fun q => by have := q.2 t (by omega) (by omega); omega)).symm) (by omega)
                        · skip
                          refine pw_const r_12_couldBe_141 ?_
                          refine pw_goto r_12_couldBe_142 ?_
                          refine pw_istore (ls' := [some (vR 12 (0)), some (vI (p)), some (vI (v)), some (vI (s)), some (vI (z)), some (vI (t)), some (vI (gF G 12 (0) 0)), some (vI (gA G 217 (0) (s))), some (vI (1))]) r_12_couldBe_146 rfl rfl ?_
                          refine pw_iload r_12_couldBe_148 rfl ?_
                          refine pw_if_eq r_12_couldBe_149 (fun h149 => ?_) (fun h149 => ?_)
                          · skip
                            have h149n := b2i_eq0.mp (hw.symm.trans h149)
                            refine pw_const r_12_couldBe_177 ?_
                            refine pw_istore (ls' := [some (vR 12 (0)), some (vI (p)), some (vI (0)), some (vI (s)), some (vI (z)), some (vI (t)), some (vI (gF G 12 (0) 0)), some (vI (gA G 217 (0) (s))), some (vI (1))]) r_12_couldBe_178 rfl rfl ?_
                            refine pw_iinc (b := 0) (ls' := [some (vR 12 (0)), some (vI (p)), some (vI (0)), some (vI (s)), some (vI (z)), some (vI ((t + 1))), some (vI (gF G 12 (0) 0)), some (vI (gA G 217 (0) (s))), some (vI (1))]) r_12_couldBe_179 rfl rfl (by omega) rfl ?_
                            refine pw_goto r_12_couldBe_182 ?_
                            refine pw_weakL (ls' := [some (vR 12 (0)), some (vI (p)), some (vI (0)), some (vI (s)), some (vI (z)), some (vI ((t + 1))), none, none, none]) (⟨rfl, ⟨rfl, ⟨rfl, ⟨rfl, ⟨rfl, ⟨rfl, trivial⟩⟩⟩⟩⟩⟩) ?_
                            exact ih39 ((t + 1)) (z) (0) (by omega) (hz) (by first | exact (b2i_t ⟨hA.1, all_s hA.2 (by intro _ _; omega)⟩).symm | exact (b2i_f (fun q => h149n ⟨q.1, fun y a b => q.2 y a (by omega)⟩)).symm | exact (b2i_f (fun q => by have := q.2 t (by omega) (by omega); omega)).symm) (by omega)
                          · skip
                            have hv1 : v = 1 := by rcases b2i_01 (((∀ x, 0 ≤ x → x < s → ∀ y, 0 ≤ y → y < (gF G 12 0 91) → ((gA G 215 0 (x)) = p → ((gA G 217 0 (x)) ≤ (gA G 262 0 (y)) ∧ (gA G 217 0 (x)) ≤ (gF G 12 0 0) ∧ (gA G 261 0 (y)) ≤ (gA G 262 0 (y)) ∧ (gA G 261 0 (y)) ≤ (gF G 12 0 0) ∧ ((gA G 218 0 (x)) < 0 ∨ (0 ≤ (gA G 218 0 (x)) ∧ (gA G 217 0 (x)) ≤ (gA G 218 0 (x)) ∧ (gA G 261 0 (y)) ≤ (gA G 218 0 (x))))) → (gA G 216 0 (x)) = (gA G 260 0 (y)))) ∧ ∀ y, 0 ≤ y → y < t → ((gA G 215 0 (s)) = p → ((gA G 217 0 (s)) ≤ (gA G 262 0 (y)) ∧ (gA G 217 0 (s)) ≤ (gF G 12 0 0) ∧ (gA G 261 0 (y)) ≤ (gA G 262 0 (y)) ∧ (gA G 261 0 (y)) ≤ (gF G 12 0 0) ∧ ((gA G 218 0 (s)) < 0 ∨ (0 ≤ (gA G 218 0 (s)) ∧ (gA G 217 0 (s)) ≤ (gA G 218 0 (s)) ∧ (gA G 261 0 (y)) ≤ (gA G 218 0 (s))))) → (gA G 216 0 (s)) = (gA G 260 0 (y))))) with q | q; exact absurd (hw.trans q) h149; exact hw.trans q
                            have hA := b2i_eq1.mp (hw.symm.trans hv1)
                            refine pw_iload r_12_couldBe_152 rfl ?_
                            refine pw_if_eq r_12_couldBe_154 (fun h154 => ?_) (fun h154 => ?_)
                            · skip
                              refine pw_const r_12_couldBe_173 ?_
                              refine pw_goto r_12_couldBe_174 ?_
                              refine pw_istore (ls' := [some (vR 12 (0)), some (vI (p)), some (vI (1)), some (vI (s)), some (vI (z)), some (vI (t)), some (vI (gF G 12 (0) 0)), some (vI (gA G 217 (0) (s))), some (vI (1))]) r_12_couldBe_178 rfl rfl ?_
                              refine pw_iinc (b := 0) (ls' := [some (vR 12 (0)), some (vI (p)), some (vI (1)), some (vI (s)), some (vI (z)), some (vI ((t + 1))), some (vI (gF G 12 (0) 0)), some (vI (gA G 217 (0) (s))), some (vI (1))]) r_12_couldBe_179 rfl rfl (by omega) rfl ?_
                              refine pw_goto r_12_couldBe_182 ?_
                              refine pw_weakL (ls' := [some (vR 12 (0)), some (vI (p)), some (vI (1)), some (vI (s)), some (vI (z)), some (vI ((t + 1))), none, none, none]) (⟨rfl, ⟨rfl, ⟨rfl, ⟨rfl, ⟨rfl, ⟨rfl, trivial⟩⟩⟩⟩⟩⟩) ?_
                              exact ih39 ((t + 1)) (z) (1) (by omega) (hz) (by first | exact (b2i_t ⟨hA.1, all_s hA.2 (by intro _ _; omega)⟩).symm | exact (b2i_f (fun q => h149n ⟨q.1, fun y a b => q.2 y a (by omega)⟩)).symm | exact (b2i_f (fun q => by have := q.2 t (by omega) (by omega); omega)).symm) (by omega)
                            · skip
                              refine pw_aload r_12_couldBe_157 rfl ?_
                              refine pw_getR r_12_couldBe_158 fs_12_19 (by decide) ?_
                              refine pw_iload r_12_couldBe_161 rfl ?_
                              refine pw_iald r_12_couldBe_162 sh216 (by omega) (by omega) ?_
                              refine pw_aload r_12_couldBe_163 rfl ?_
                              refine pw_getR r_12_couldBe_164 fs_12_88 (by decide) ?_
                              refine pw_iload r_12_couldBe_167 rfl ?_
                              refine pw_iald r_12_couldBe_169 sh260 (by omega) (by omega) ?_
                              refine pw_icmp_ne r_12_couldBe_170 (fun h170 => ?_) (fun h170 => ?_)
                              · skip
                                refine pw_const r_12_couldBe_177 ?_
                                refine pw_istore (ls' := [some (vR 12 (0)), some (vI (p)), some (vI (0)), some (vI (s)), some (vI (z)), some (vI (t)), some (vI (gF G 12 (0) 0)), some (vI (gA G 217 (0) (s))), some (vI (1))]) r_12_couldBe_178 rfl rfl ?_
                                refine pw_iinc (b := 0) (ls' := [some (vR 12 (0)), some (vI (p)), some (vI (0)), some (vI (s)), some (vI (z)), some (vI ((t + 1))), some (vI (gF G 12 (0) 0)), some (vI (gA G 217 (0) (s))), some (vI (1))]) r_12_couldBe_179 rfl rfl (by omega) rfl ?_
                                refine pw_goto r_12_couldBe_182 ?_
                                refine pw_weakL (ls' := [some (vR 12 (0)), some (vI (p)), some (vI (0)), some (vI (s)), some (vI (z)), some (vI ((t + 1))), none, none, none]) (⟨rfl, ⟨rfl, ⟨rfl, ⟨rfl, ⟨rfl, ⟨rfl, trivial⟩⟩⟩⟩⟩⟩) ?_
                                exact ih39 ((t + 1)) (z) (0) (by omega) (hz) (by first | exact (b2i_t ⟨hA.1, all_s hA.2 (by intro _ _; omega)⟩).symm | exact (b2i_f (fun q => h149n ⟨q.1, fun y a b => q.2 y a (by omega)⟩)).symm | exact (b2i_f (fun q => by have := q.2 t (by omega) (by omega); omega)).symm) (by omega)
                              · skip
                                refine pw_const r_12_couldBe_173 ?_
                                refine pw_goto r_12_couldBe_174 ?_
                                refine pw_istore (ls' := [some (vR 12 (0)), some (vI (p)), some (vI (1)), some (vI (s)), some (vI (z)), some (vI (t)), some (vI (gF G 12 (0) 0)), some (vI (gA G 217 (0) (s))), some (vI (1))]) r_12_couldBe_178 rfl rfl ?_
                                refine pw_iinc (b := 0) (ls' := [some (vR 12 (0)), some (vI (p)), some (vI (1)), some (vI (s)), some (vI (z)), some (vI ((t + 1))), some (vI (gF G 12 (0) 0)), some (vI (gA G 217 (0) (s))), some (vI (1))]) r_12_couldBe_179 rfl rfl (by omega) rfl ?_
                                refine pw_goto r_12_couldBe_182 ?_
                                refine pw_weakL (ls' := [some (vR 12 (0)), some (vI (p)), some (vI (1)), some (vI (s)), some (vI (z)), some (vI ((t + 1))), none, none, none]) (⟨rfl, ⟨rfl, ⟨rfl, ⟨rfl, ⟨rfl, ⟨rfl, trivial⟩⟩⟩⟩⟩⟩) ?_
                                exact ih39 ((t + 1)) (z) (1) (by omega) (hz) (by first | exact (b2i_t ⟨hA.1, all_s hA.2 (by intro _ _; omega)⟩).symm | exact (b2i_f (fun q => h149n ⟨q.1, fun y a b => q.2 y a (by omega)⟩)).symm | exact (b2i_f (fun q => by have := q.2 t (by omega) (by omega); omega)).symm) (by omega)
                  · skip
                    refine pw_aload r_12_couldBe_72 rfl ?_
                    refine pw_getR r_12_couldBe_73 fs_12_90 (by decide) ?_
                    refine pw_iload r_12_couldBe_76 rfl ?_
                    refine pw_iald r_12_couldBe_78 sh262 (by omega) (by omega) ?_
                    refine pw_goto r_12_couldBe_79 ?_
                    refine pw_istore (ls' := [some (vR 12 (0)), some (vI (p)), some (vI (v)), some (vI (s)), some (vI (z)), some (vI (t)), some (vI (gA G 262 (0) (t))), none, none]) r_12_couldBe_86 rfl rfl ?_
                    refine pw_aload r_12_couldBe_88 rfl ?_
                    refine pw_getR r_12_couldBe_89 fs_12_20 (by decide) ?_
                    refine pw_iload r_12_couldBe_92 rfl ?_
                    refine pw_iald r_12_couldBe_93 sh217 (by omega) (by omega) ?_
                    refine pw_aload r_12_couldBe_94 rfl ?_
                    refine pw_getR r_12_couldBe_95 fs_12_89 (by decide) ?_
                    refine pw_iload r_12_couldBe_98 rfl ?_
                    refine pw_iald r_12_couldBe_100 sh261 (by omega) (by omega) ?_
                    refine pw_icmp_le r_12_couldBe_101 (fun h101 => ?_) (fun h101 => ?_)
                    · skip
                      refine pw_aload r_12_couldBe_113 rfl ?_
                      refine pw_getR r_12_couldBe_114 fs_12_89 (by decide) ?_
                      refine pw_iload r_12_couldBe_117 rfl ?_
                      refine pw_iald r_12_couldBe_119 sh261 (by omega) (by omega) ?_
                      refine pw_istore (ls' := [some (vR 12 (0)), some (vI (p)), some (vI (v)), some (vI (s)), some (vI (z)), some (vI (t)), some (vI (gA G 262 (0) (t))), some (vI (gA G 261 (0) (t))), none]) r_12_couldBe_120 rfl rfl ?_
                      refine pw_iload r_12_couldBe_122 rfl ?_
                      refine pw_iload r_12_couldBe_124 rfl ?_
                      refine pw_iload r_12_couldBe_126 rfl ?_
                      refine pw_icmp_ge r_12_couldBe_128 (fun h128 => ?_) (fun h128 => ?_)
                      · skip
                        refine pw_iload r_12_couldBe_136 rfl ?_
                        refine pw_icmp_gt r_12_couldBe_138 (fun h138 => ?_) (fun h138 => ?_)
                        · skip
                          refine pw_const r_12_couldBe_145 ?_
                          refine pw_istore (ls' := [some (vR 12 (0)), some (vI (p)), some (vI (v)), some (vI (s)), some (vI (z)), some (vI (t)), some (vI (gA G 262 (0) (t))), some (vI (gA G 261 (0) (t))), some (vI (0))]) r_12_couldBe_146 rfl rfl ?_
                          refine pw_iload r_12_couldBe_148 rfl ?_
                          refine pw_if_eq r_12_couldBe_149 (fun h149 => ?_) (fun h149 => ?_)
                          · skip
                            have h149n := b2i_eq0.mp (hw.symm.trans h149)
                            refine pw_const r_12_couldBe_177 ?_
                            refine pw_istore (ls' := [some (vR 12 (0)), some (vI (p)), some (vI (0)), some (vI (s)), some (vI (z)), some (vI (t)), some (vI (gA G 262 (0) (t))), some (vI (gA G 261 (0) (t))), some (vI (0))]) r_12_couldBe_178 rfl rfl ?_
                            refine pw_iinc (b := 0) (ls' := [some (vR 12 (0)), some (vI (p)), some (vI (0)), some (vI (s)), some (vI (z)), some (vI ((t + 1))), some (vI (gA G 262 (0) (t))), some (vI (gA G 261 (0) (t))), some (vI (0))]) r_12_couldBe_179 rfl rfl (by omega) rfl ?_
                            refine pw_goto r_12_couldBe_182 ?_
                            refine pw_weakL (ls' := [some (vR 12 (0)), some (vI (p)), some (vI (0)), some (vI (s)), some (vI (z)), some (vI ((t + 1))), none, none, none]) (⟨rfl, ⟨rfl, ⟨rfl, ⟨rfl, ⟨rfl, ⟨rfl, trivial⟩⟩⟩⟩⟩⟩) ?_
                            exact ih39 ((t + 1)) (z) (0) (by omega) (hz) (by first | exact (b2i_t ⟨hA.1, all_s hA.2 (by intro _ _; omega)⟩).symm | exact (b2i_f (fun q => h149n ⟨q.1, fun y a b => q.2 y a (by omega)⟩)).symm | exact (b2i_f (fun q => by have := q.2 t (by omega) (by omega); omega)).symm) (by omega)
                          · skip
                            have hv1 : v = 1 := by rcases b2i_01 (((∀ x, 0 ≤ x → x < s → ∀ y, 0 ≤ y → y < (gF G 12 0 91) → ((gA G 215 0 (x)) = p → ((gA G 217 0 (x)) ≤ (gA G 262 0 (y)) ∧ (gA G 217 0 (x)) ≤ (gF G 12 0 0) ∧ (gA G 261 0 (y)) ≤ (gA G 262 0 (y)) ∧ (gA G 261 0 (y)) ≤ (gF G 12 0 0) ∧ ((gA G 218 0 (x)) < 0 ∨ (0 ≤ (gA G 218 0 (x)) ∧ (gA G 217 0 (x)) ≤ (gA G 218 0 (x)) ∧ (gA G 261 0 (y)) ≤ (gA G 218 0 (x))))) → (gA G 216 0 (x)) = (gA G 260 0 (y)))) ∧ ∀ y, 0 ≤ y → y < t → ((gA G 215 0 (s)) = p → ((gA G 217 0 (s)) ≤ (gA G 262 0 (y)) ∧ (gA G 217 0 (s)) ≤ (gF G 12 0 0) ∧ (gA G 261 0 (y)) ≤ (gA G 262 0 (y)) ∧ (gA G 261 0 (y)) ≤ (gF G 12 0 0) ∧ ((gA G 218 0 (s)) < 0 ∨ (0 ≤ (gA G 218 0 (s)) ∧ (gA G 217 0 (s)) ≤ (gA G 218 0 (s)) ∧ (gA G 261 0 (y)) ≤ (gA G 218 0 (s))))) → (gA G 216 0 (s)) = (gA G 260 0 (y))))) with q | q; exact absurd (hw.trans q) h149; exact hw.trans q
                            have hA := b2i_eq1.mp (hw.symm.trans hv1)
                            refine pw_iload r_12_couldBe_152 rfl ?_
                            refine pw_if_eq r_12_couldBe_154 (fun h154 => ?_) (fun h154 => ?_)
                            · skip
                              refine pw_const r_12_couldBe_173 ?_
                              refine pw_goto r_12_couldBe_174 ?_
                              refine pw_istore (ls' := [some (vR 12 (0)), some (vI (p)), some (vI (1)), some (vI (s)), some (vI (z)), some (vI (t)), some (vI (gA G 262 (0) (t))), some (vI (gA G 261 (0) (t))), some (vI (0))]) r_12_couldBe_178 rfl rfl ?_
                              refine pw_iinc (b := 0) (ls' := [some (vR 12 (0)), some (vI (p)), some (vI (1)), some (vI (s)), some (vI (z)), some (vI ((t + 1))), some (vI (gA G 262 (0) (t))), some (vI (gA G 261 (0) (t))), some (vI (0))]) r_12_couldBe_179 rfl rfl (by omega) rfl ?_
                              refine pw_goto r_12_couldBe_182 ?_
                              refine pw_weakL (ls' := [some (vR 12 (0)), some (vI (p)), some (vI (1)), some (vI (s)), some (vI (z)), some (vI ((t + 1))), none, none, none]) (⟨rfl, ⟨rfl, ⟨rfl, ⟨rfl, ⟨rfl, ⟨rfl, trivial⟩⟩⟩⟩⟩⟩) ?_
                              exact ih39 ((t + 1)) (z) (1) (by omega) (hz) (by first | exact (b2i_t ⟨hA.1, all_s hA.2 (by intro _ _; omega)⟩).symm | exact (b2i_f (fun q => h149n ⟨q.1, fun y a b => q.2 y a (by omega)⟩)).symm | exact (b2i_f (fun q => by have := q.2 t (by omega) (by omega); omega)).symm) (by omega)
                            · skip
                              refine pw_aload r_12_couldBe_157 rfl ?_
                              refine pw_getR r_12_couldBe_158 fs_12_19 (by decide) ?_
                              refine pw_iload r_12_couldBe_161 rfl ?_
                              refine pw_iald r_12_couldBe_162 sh216 (by omega) (by omega) ?_
                              refine pw_aload r_12_couldBe_163 rfl ?_
                              refine pw_getR r_12_couldBe_164 fs_12_88 (by decide) ?_
                              refine pw_iload r_12_couldBe_167 rfl ?_
                              refine pw_iald r_12_couldBe_169 sh260 (by omega) (by omega) ?_
                              refine pw_icmp_ne r_12_couldBe_170 (fun h170 => ?_) (fun h170 => ?_)
                              · skip
                                refine pw_const r_12_couldBe_177 ?_
                                refine pw_istore (ls' := [some (vR 12 (0)), some (vI (p)), some (vI (0)), some (vI (s)), some (vI (z)), some (vI (t)), some (vI (gA G 262 (0) (t))), some (vI (gA G 261 (0) (t))), some (vI (0))]) r_12_couldBe_178 rfl rfl ?_
                                refine pw_iinc (b := 0) (ls' := [some (vR 12 (0)), some (vI (p)), some (vI (0)), some (vI (s)), some (vI (z)), some (vI ((t + 1))), some (vI (gA G 262 (0) (t))), some (vI (gA G 261 (0) (t))), some (vI (0))]) r_12_couldBe_179 rfl rfl (by omega) rfl ?_
                                refine pw_goto r_12_couldBe_182 ?_
                                refine pw_weakL (ls' := [some (vR 12 (0)), some (vI (p)), some (vI (0)), some (vI (s)), some (vI (z)), some (vI ((t + 1))), none, none, none]) (⟨rfl, ⟨rfl, ⟨rfl, ⟨rfl, ⟨rfl, ⟨rfl, trivial⟩⟩⟩⟩⟩⟩) ?_
                                exact ih39 ((t + 1)) (z) (0) (by omega) (hz) (by first | exact (b2i_t ⟨hA.1, all_s hA.2 (by intro _ _; omega)⟩).symm | exact (b2i_f (fun q => h149n ⟨q.1, fun y a b => q.2 y a (by omega)⟩)).symm | exact (b2i_f (fun q => by have := q.2 t (by omega) (by omega); omega)).symm) (by omega)
                              · skip
                                refine pw_const r_12_couldBe_173 ?_
                                refine pw_goto r_12_couldBe_174 ?_
                                refine pw_istore (ls' := [some (vR 12 (0)), some (vI (p)), some (vI (1)), some (vI (s)), some (vI (z)), some (vI (t)), some (vI (gA G 262 (0) (t))), some (vI (gA G 261 (0) (t))), some (vI (0))]) r_12_couldBe_178 rfl rfl ?_
                                refine pw_iinc (b := 0) (ls' := [some (vR 12 (0)), some (vI (p)), some (vI (1)), some (vI (s)), some (vI (z)), some (vI ((t + 1))), some (vI (gA G 262 (0) (t))), some (vI (gA G 261 (0) (t))), some (vI (0))]) r_12_couldBe_179 rfl rfl (by omega) rfl ?_
                                refine pw_goto r_12_couldBe_182 ?_
                                refine pw_weakL (ls' := [some (vR 12 (0)), some (vI (p)), some (vI (1)), some (vI (s)), some (vI (z)), some (vI ((t + 1))), none, none, none]) (⟨rfl, ⟨rfl, ⟨rfl, ⟨rfl, ⟨rfl, ⟨rfl, trivial⟩⟩⟩⟩⟩⟩) ?_
                                exact ih39 ((t + 1)) (z) (1) (by omega) (hz) (by first | exact (b2i_t ⟨hA.1, all_s hA.2 (by intro _ _; omega)⟩).symm | exact (b2i_f (fun q => h149n ⟨q.1, fun y a b => q.2 y a (by omega)⟩)).symm | exact (b2i_f (fun q => by have := q.2 t (by omega) (by omega); omega)).symm) (by omega)
                        · skip
                          refine pw_const r_12_couldBe_141 ?_
                          refine pw_goto r_12_couldBe_142 ?_
                          refine pw_istore (ls' := [some (vR 12 (0)), some (vI (p)), some (vI (v)), some (vI (s)), some (vI (z)), some (vI (t)), some (vI (gA G 262 (0) (t))), some (vI (gA G 261 (0) (t))), some (vI (1))]) r_12_couldBe_146 rfl rfl ?_
                          refine pw_iload r_12_couldBe_148 rfl ?_
                          refine pw_if_eq r_12_couldBe_149 (fun h149 => ?_) (fun h149 => ?_)
                          · skip
                            have h149n := b2i_eq0.mp (hw.symm.trans h149)
                            refine pw_const r_12_couldBe_177 ?_
                            refine pw_istore (ls' := [some (vR 12 (0)), some (vI (p)), some (vI (0)), some (vI (s)), some (vI (z)), some (vI (t)), some (vI (gA G 262 (0) (t))), some (vI (gA G 261 (0) (t))), some (vI (1))]) r_12_couldBe_178 rfl rfl ?_
                            refine pw_iinc (b := 0) (ls' := [some (vR 12 (0)), some (vI (p)), some (vI (0)), some (vI (s)), some (vI (z)), some (vI ((t + 1))), some (vI (gA G 262 (0) (t))), some (vI (gA G 261 (0) (t))), some (vI (1))]) r_12_couldBe_179 rfl rfl (by omega) rfl ?_
                            refine pw_goto r_12_couldBe_182 ?_
                            refine pw_weakL (ls' := [some (vR 12 (0)), some (vI (p)), some (vI (0)), some (vI (s)), some (vI (z)), some (vI ((t + 1))), none, none, none]) (⟨rfl, ⟨rfl, ⟨rfl, ⟨rfl, ⟨rfl, ⟨rfl, trivial⟩⟩⟩⟩⟩⟩) ?_
                            exact ih39 ((t + 1)) (z) (0) (by omega) (hz) (by first | exact (b2i_t ⟨hA.1, all_s hA.2 (by intro _ _; omega)⟩).symm | exact (b2i_f (fun q => h149n ⟨q.1, fun y a b => q.2 y a (by omega)⟩)).symm | exact (b2i_f (fun q => by have := q.2 t (by omega) (by omega); omega)).symm) (by omega)
                          · skip
                            have hv1 : v = 1 := by rcases b2i_01 (((∀ x, 0 ≤ x → x < s → ∀ y, 0 ≤ y → y < (gF G 12 0 91) → ((gA G 215 0 (x)) = p → ((gA G 217 0 (x)) ≤ (gA G 262 0 (y)) ∧ (gA G 217 0 (x)) ≤ (gF G 12 0 0) ∧ (gA G 261 0 (y)) ≤ (gA G 262 0 (y)) ∧ (gA G 261 0 (y)) ≤ (gF G 12 0 0) ∧ ((gA G 218 0 (x)) < 0 ∨ (0 ≤ (gA G 218 0 (x)) ∧ (gA G 217 0 (x)) ≤ (gA G 218 0 (x)) ∧ (gA G 261 0 (y)) ≤ (gA G 218 0 (x))))) → (gA G 216 0 (x)) = (gA G 260 0 (y)))) ∧ ∀ y, 0 ≤ y → y < t → ((gA G 215 0 (s)) = p → ((gA G 217 0 (s)) ≤ (gA G 262 0 (y)) ∧ (gA G 217 0 (s)) ≤ (gF G 12 0 0) ∧ (gA G 261 0 (y)) ≤ (gA G 262 0 (y)) ∧ (gA G 261 0 (y)) ≤ (gF G 12 0 0) ∧ ((gA G 218 0 (s)) < 0 ∨ (0 ≤ (gA G 218 0 (s)) ∧ (gA G 217 0 (s)) ≤ (gA G 218 0 (s)) ∧ (gA G 261 0 (y)) ≤ (gA G 218 0 (s))))) → (gA G 216 0 (s)) = (gA G 260 0 (y))))) with q | q; exact absurd (hw.trans q) h149; exact hw.trans q
                            have hA := b2i_eq1.mp (hw.symm.trans hv1)
                            refine pw_iload r_12_couldBe_152 rfl ?_
                            refine pw_if_eq r_12_couldBe_154 (fun h154 => ?_) (fun h154 => ?_)
                            · skip
                              refine pw_const r_12_couldBe_173 ?_
                              refine pw_goto r_12_couldBe_174 ?_
                              refine pw_istore (ls' := [some (vR 12 (0)), some (vI (p)), some (vI (1)), some (vI (s)), some (vI (z)), some (vI (t)), some (vI (gA G 262 (0) (t))), some (vI (gA G 261 (0) (t))), some (vI (1))]) r_12_couldBe_178 rfl rfl ?_
                              refine pw_iinc (b := 0) (ls' := [some (vR 12 (0)), some (vI (p)), some (vI (1)), some (vI (s)), some (vI (z)), some (vI ((t + 1))), some (vI (gA G 262 (0) (t))), some (vI (gA G 261 (0) (t))), some (vI (1))]) r_12_couldBe_179 rfl rfl (by omega) rfl ?_
                              refine pw_goto r_12_couldBe_182 ?_
                              refine pw_weakL (ls' := [some (vR 12 (0)), some (vI (p)), some (vI (1)), some (vI (s)), some (vI (z)), some (vI ((t + 1))), none, none, none]) (⟨rfl, ⟨rfl, ⟨rfl, ⟨rfl, ⟨rfl, ⟨rfl, trivial⟩⟩⟩⟩⟩⟩) ?_
                              exact ih39 ((t + 1)) (z) (1) (by omega) (hz) (by first | exact (b2i_t ⟨hA.1, all_s hA.2 (by intro _ _; omega)⟩).symm | exact (b2i_f (fun q => h149n ⟨q.1, fun y a b => q.2 y a (by omega)⟩)).symm | exact (b2i_f (fun q => by have := q.2 t (by omega) (by omega); omega)).symm) (by omega)
                            · skip
                              refine pw_aload r_12_couldBe_157 rfl ?_
                              refine pw_getR r_12_couldBe_158 fs_12_19 (by decide) ?_
                              refine pw_iload r_12_couldBe_161 rfl ?_
                              refine pw_iald r_12_couldBe_162 sh216 (by omega) (by omega) ?_
                              refine pw_aload r_12_couldBe_163 rfl ?_
                              refine pw_getR r_12_couldBe_164 fs_12_88 (by decide) ?_
                              refine pw_iload r_12_couldBe_167 rfl ?_
                              refine pw_iald r_12_couldBe_169 sh260 (by omega) (by omega) ?_
                              refine pw_icmp_ne r_12_couldBe_170 (fun h170 => ?_) (fun h170 => ?_)
                              · skip
                                refine pw_const r_12_couldBe_177 ?_
                                refine pw_istore (ls' := [some (vR 12 (0)), some (vI (p)), some (vI (0)), some (vI (s)), some (vI (z)), some (vI (t)), some (vI (gA G 262 (0) (t))), some (vI (gA G 261 (0) (t))), some (vI (1))]) r_12_couldBe_178 rfl rfl ?_
                                refine pw_iinc (b := 0) (ls' := [some (vR 12 (0)), some (vI (p)), some (vI (0)), some (vI (s)), some (vI (z)), some (vI ((t + 1))), some (vI (gA G 262 (0) (t))), some (vI (gA G 261 (0) (t))), some (vI (1))]) r_12_couldBe_179 rfl rfl (by omega) rfl ?_
                                refine pw_goto r_12_couldBe_182 ?_
                                refine pw_weakL (ls' := [some (vR 12 (0)), some (vI (p)), some (vI (0)), some (vI (s)), some (vI (z)), some (vI ((t + 1))), none, none, none]) (⟨rfl, ⟨rfl, ⟨rfl, ⟨rfl, ⟨rfl, ⟨rfl, trivial⟩⟩⟩⟩⟩⟩) ?_
                                exact ih39 ((t + 1)) (z) (0) (by omega) (hz) (by first | exact (b2i_t ⟨hA.1, all_s hA.2 (by intro _ _; omega)⟩).symm | exact (b2i_f (fun q => h149n ⟨q.1, fun y a b => q.2 y a (by omega)⟩)).symm | exact (b2i_f (fun q => by have := q.2 t (by omega) (by omega); omega)).symm) (by omega)
                              · skip
                                refine pw_const r_12_couldBe_173 ?_
                                refine pw_goto r_12_couldBe_174 ?_
                                refine pw_istore (ls' := [some (vR 12 (0)), some (vI (p)), some (vI (1)), some (vI (s)), some (vI (z)), some (vI (t)), some (vI (gA G 262 (0) (t))), some (vI (gA G 261 (0) (t))), some (vI (1))]) r_12_couldBe_178 rfl rfl ?_
                                refine pw_iinc (b := 0) (ls' := [some (vR 12 (0)), some (vI (p)), some (vI (1)), some (vI (s)), some (vI (z)), some (vI ((t + 1))), some (vI (gA G 262 (0) (t))), some (vI (gA G 261 (0) (t))), some (vI (1))]) r_12_couldBe_179 rfl rfl (by omega) rfl ?_
                                refine pw_goto r_12_couldBe_182 ?_
                                refine pw_weakL (ls' := [some (vR 12 (0)), some (vI (p)), some (vI (1)), some (vI (s)), some (vI (z)), some (vI ((t + 1))), none, none, none]) (⟨rfl, ⟨rfl, ⟨rfl, ⟨rfl, ⟨rfl, ⟨rfl, trivial⟩⟩⟩⟩⟩⟩) ?_
                                exact ih39 ((t + 1)) (z) (1) (by omega) (hz) (by first | exact (b2i_t ⟨hA.1, all_s hA.2 (by intro _ _; omega)⟩).symm | exact (b2i_f (fun q => h149n ⟨q.1, fun y a b => q.2 y a (by omega)⟩)).symm | exact (b2i_f (fun q => by have := q.2 t (by omega) (by omega); omega)).symm) (by omega)
                      · skip
                        refine pw_iload r_12_couldBe_131 rfl ?_
                        refine pw_goto r_12_couldBe_133 ?_
                        refine pw_icmp_gt r_12_couldBe_138 (fun h138 => ?_) (fun h138 => ?_)
                        · skip
                          refine pw_const r_12_couldBe_145 ?_
                          refine pw_istore (ls' := [some (vR 12 (0)), some (vI (p)), some (vI (v)), some (vI (s)), some (vI (z)), some (vI (t)), some (vI (gA G 262 (0) (t))), some (vI (gA G 261 (0) (t))), some (vI (0))]) r_12_couldBe_146 rfl rfl ?_
                          refine pw_iload r_12_couldBe_148 rfl ?_
                          refine pw_if_eq r_12_couldBe_149 (fun h149 => ?_) (fun h149 => ?_)
                          · skip
                            have h149n := b2i_eq0.mp (hw.symm.trans h149)
                            refine pw_const r_12_couldBe_177 ?_
                            refine pw_istore (ls' := [some (vR 12 (0)), some (vI (p)), some (vI (0)), some (vI (s)), some (vI (z)), some (vI (t)), some (vI (gA G 262 (0) (t))), some (vI (gA G 261 (0) (t))), some (vI (0))]) r_12_couldBe_178 rfl rfl ?_
                            refine pw_iinc (b := 0) (ls' := [some (vR 12 (0)), some (vI (p)), some (vI (0)), some (vI (s)), some (vI (z)), some (vI ((t + 1))), some (vI (gA G 262 (0) (t))), some (vI (gA G 261 (0) (t))), some (vI (0))]) r_12_couldBe_179 rfl rfl (by omega) rfl ?_
                            refine pw_goto r_12_couldBe_182 ?_
                            refine pw_weakL (ls' := [some (vR 12 (0)), some (vI (p)), some (vI (0)), some (vI (s)), some (vI (z)), some (vI ((t + 1))), none, none, none]) (⟨rfl, ⟨rfl, ⟨rfl, ⟨rfl, ⟨rfl, ⟨rfl, trivial⟩⟩⟩⟩⟩⟩) ?_
                            exact ih39 ((t + 1)) (z) (0) (by omega) (hz) (by first | exact (b2i_t ⟨hA.1, all_s hA.2 (by intro _ _; omega)⟩).symm | exact (b2i_f (fun q => h149n ⟨q.1, fun y a b => q.2 y a (by omega)⟩)).symm | exact (b2i_f (fun q => by have := q.2 t (by omega) (by omega); omega)).symm) (by omega)
                          · skip
                            have hv1 : v = 1 := by rcases b2i_01 (((∀ x, 0 ≤ x → x < s → ∀ y, 0 ≤ y → y < (gF G 12 0 91) → ((gA G 215 0 (x)) = p → ((gA G 217 0 (x)) ≤ (gA G 262 0 (y)) ∧ (gA G 217 0 (x)) ≤ (gF G 12 0 0) ∧ (gA G 261 0 (y)) ≤ (gA G 262 0 (y)) ∧ (gA G 261 0 (y)) ≤ (gF G 12 0 0) ∧ ((gA G 218 0 (x)) < 0 ∨ (0 ≤ (gA G 218 0 (x)) ∧ (gA G 217 0 (x)) ≤ (gA G 218 0 (x)) ∧ (gA G 261 0 (y)) ≤ (gA G 218 0 (x))))) → (gA G 216 0 (x)) = (gA G 260 0 (y)))) ∧ ∀ y, 0 ≤ y → y < t → ((gA G 215 0 (s)) = p → ((gA G 217 0 (s)) ≤ (gA G 262 0 (y)) ∧ (gA G 217 0 (s)) ≤ (gF G 12 0 0) ∧ (gA G 261 0 (y)) ≤ (gA G 262 0 (y)) ∧ (gA G 261 0 (y)) ≤ (gF G 12 0 0) ∧ ((gA G 218 0 (s)) < 0 ∨ (0 ≤ (gA G 218 0 (s)) ∧ (gA G 217 0 (s)) ≤ (gA G 218 0 (s)) ∧ (gA G 261 0 (y)) ≤ (gA G 218 0 (s))))) → (gA G 216 0 (s)) = (gA G 260 0 (y))))) with q | q; exact absurd (hw.trans q) h149; exact hw.trans q
                            have hA := b2i_eq1.mp (hw.symm.trans hv1)
                            refine pw_iload r_12_couldBe_152 rfl ?_
                            refine pw_if_eq r_12_couldBe_154 (fun h154 => ?_) (fun h154 => ?_)
                            · skip
                              refine pw_const r_12_couldBe_173 ?_
                              refine pw_goto r_12_couldBe_174 ?_
                              refine pw_istore (ls' := [some (vR 12 (0)), some (vI (p)), some (vI (1)), some (vI (s)), some (vI (z)), some (vI (t)), some (vI (gA G 262 (0) (t))), some (vI (gA G 261 (0) (t))), some (vI (0))]) r_12_couldBe_178 rfl rfl ?_
                              refine pw_iinc (b := 0) (ls' := [some (vR 12 (0)), some (vI (p)), some (vI (1)), some (vI (s)), some (vI (z)), some (vI ((t + 1))), some (vI (gA G 262 (0) (t))), some (vI (gA G 261 (0) (t))), some (vI (0))]) r_12_couldBe_179 rfl rfl (by omega) rfl ?_
                              refine pw_goto r_12_couldBe_182 ?_
                              refine pw_weakL (ls' := [some (vR 12 (0)), some (vI (p)), some (vI (1)), some (vI (s)), some (vI (z)), some (vI ((t + 1))), none, none, none]) (⟨rfl, ⟨rfl, ⟨rfl, ⟨rfl, ⟨rfl, ⟨rfl, trivial⟩⟩⟩⟩⟩⟩) ?_
                              exact ih39 ((t + 1)) (z) (1) (by omega) (hz) (by first | exact (b2i_t ⟨hA.1, all_s hA.2 (by intro _ _; omega)⟩).symm | exact (b2i_f (fun q => h149n ⟨q.1, fun y a b => q.2 y a (by omega)⟩)).symm | exact (b2i_f (fun q => by have := q.2 t (by omega) (by omega); omega)).symm) (by omega)
                            · skip
                              refine pw_aload r_12_couldBe_157 rfl ?_
                              refine pw_getR r_12_couldBe_158 fs_12_19 (by decide) ?_
                              refine pw_iload r_12_couldBe_161 rfl ?_
                              refine pw_iald r_12_couldBe_162 sh216 (by omega) (by omega) ?_
                              refine pw_aload r_12_couldBe_163 rfl ?_
                              refine pw_getR r_12_couldBe_164 fs_12_88 (by decide) ?_
                              refine pw_iload r_12_couldBe_167 rfl ?_
                              refine pw_iald r_12_couldBe_169 sh260 (by omega) (by omega) ?_
                              refine pw_icmp_ne r_12_couldBe_170 (fun h170 => ?_) (fun h170 => ?_)
                              · skip
                                refine pw_const r_12_couldBe_177 ?_
                                refine pw_istore (ls' := [some (vR 12 (0)), some (vI (p)), some (vI (0)), some (vI (s)), some (vI (z)), some (vI (t)), some (vI (gA G 262 (0) (t))), some (vI (gA G 261 (0) (t))), some (vI (0))]) r_12_couldBe_178 rfl rfl ?_
                                refine pw_iinc (b := 0) (ls' := [some (vR 12 (0)), some (vI (p)), some (vI (0)), some (vI (s)), some (vI (z)), some (vI ((t + 1))), some (vI (gA G 262 (0) (t))), some (vI (gA G 261 (0) (t))), some (vI (0))]) r_12_couldBe_179 rfl rfl (by omega) rfl ?_
                                refine pw_goto r_12_couldBe_182 ?_
                                refine pw_weakL (ls' := [some (vR 12 (0)), some (vI (p)), some (vI (0)), some (vI (s)), some (vI (z)), some (vI ((t + 1))), none, none, none]) (⟨rfl, ⟨rfl, ⟨rfl, ⟨rfl, ⟨rfl, ⟨rfl, trivial⟩⟩⟩⟩⟩⟩) ?_
                                exact ih39 ((t + 1)) (z) (0) (by omega) (hz) (by first | exact (b2i_t ⟨hA.1, all_s hA.2 (by intro _ _; omega)⟩).symm | exact (b2i_f (fun q => h149n ⟨q.1, fun y a b => q.2 y a (by omega)⟩)).symm | exact (b2i_f (fun q => by have := q.2 t (by omega) (by omega); omega)).symm) (by omega)
                              · skip
                                refine pw_const r_12_couldBe_173 ?_
                                refine pw_goto r_12_couldBe_174 ?_
                                refine pw_istore (ls' := [some (vR 12 (0)), some (vI (p)), some (vI (1)), some (vI (s)), some (vI (z)), some (vI (t)), some (vI (gA G 262 (0) (t))), some (vI (gA G 261 (0) (t))), some (vI (0))]) r_12_couldBe_178 rfl rfl ?_
                                refine pw_iinc (b := 0) (ls' := [some (vR 12 (0)), some (vI (p)), some (vI (1)), some (vI (s)), some (vI (z)), some (vI ((t + 1))), some (vI (gA G 262 (0) (t))), some (vI (gA G 261 (0) (t))), some (vI (0))]) r_12_couldBe_179 rfl rfl (by omega) rfl ?_
                                refine pw_goto r_12_couldBe_182 ?_
                                refine pw_weakL (ls' := [some (vR 12 (0)), some (vI (p)), some (vI (1)), some (vI (s)), some (vI (z)), some (vI ((t + 1))), none, none, none]) (⟨rfl, ⟨rfl, ⟨rfl, ⟨rfl, ⟨rfl, ⟨rfl, trivial⟩⟩⟩⟩⟩⟩) ?_
                                exact ih39 ((t + 1)) (z) (1) (by omega) (hz) (by first | exact (b2i_t ⟨hA.1, all_s hA.2 (by intro _ _; omega)⟩).symm | exact (b2i_f (fun q => h149n ⟨q.1, fun y a b => q.2 y a (by omega)⟩)).symm | exact (b2i_f (fun q => by have := q.2 t (by omega) (by omega); omega)).symm) (by omega)
                        · skip
                          refine pw_const r_12_couldBe_141 ?_
                          refine pw_goto r_12_couldBe_142 ?_
                          refine pw_istore (ls' := [some (vR 12 (0)), some (vI (p)), some (vI (v)), some (vI (s)), some (vI (z)), some (vI (t)), some (vI (gA G 262 (0) (t))), some (vI (gA G 261 (0) (t))), some (vI (1))]) r_12_couldBe_146 rfl rfl ?_
                          refine pw_iload r_12_couldBe_148 rfl ?_
                          refine pw_if_eq r_12_couldBe_149 (fun h149 => ?_) (fun h149 => ?_)
                          · skip
                            have h149n := b2i_eq0.mp (hw.symm.trans h149)
                            refine pw_const r_12_couldBe_177 ?_
                            refine pw_istore (ls' := [some (vR 12 (0)), some (vI (p)), some (vI (0)), some (vI (s)), some (vI (z)), some (vI (t)), some (vI (gA G 262 (0) (t))), some (vI (gA G 261 (0) (t))), some (vI (1))]) r_12_couldBe_178 rfl rfl ?_
                            refine pw_iinc (b := 0) (ls' := [some (vR 12 (0)), some (vI (p)), some (vI (0)), some (vI (s)), some (vI (z)), some (vI ((t + 1))), some (vI (gA G 262 (0) (t))), some (vI (gA G 261 (0) (t))), some (vI (1))]) r_12_couldBe_179 rfl rfl (by omega) rfl ?_
                            refine pw_goto r_12_couldBe_182 ?_
                            refine pw_weakL (ls' := [some (vR 12 (0)), some (vI (p)), some (vI (0)), some (vI (s)), some (vI (z)), some (vI ((t + 1))), none, none, none]) (⟨rfl, ⟨rfl, ⟨rfl, ⟨rfl, ⟨rfl, ⟨rfl, trivial⟩⟩⟩⟩⟩⟩) ?_
                            exact ih39 ((t + 1)) (z) (0) (by omega) (hz) (by first | exact (b2i_t ⟨hA.1, all_s hA.2 (by intro _ _; omega)⟩).symm | exact (b2i_f (fun q => h149n ⟨q.1, fun y a b => q.2 y a (by omega)⟩)).symm | exact (b2i_f (fun q => by have := q.2 t (by omega) (by omega); omega)).symm) (by omega)
                          · skip
                            have hv1 : v = 1 := by rcases b2i_01 (((∀ x, 0 ≤ x → x < s → ∀ y, 0 ≤ y → y < (gF G 12 0 91) → ((gA G 215 0 (x)) = p → ((gA G 217 0 (x)) ≤ (gA G 262 0 (y)) ∧ (gA G 217 0 (x)) ≤ (gF G 12 0 0) ∧ (gA G 261 0 (y)) ≤ (gA G 262 0 (y)) ∧ (gA G 261 0 (y)) ≤ (gF G 12 0 0) ∧ ((gA G 218 0 (x)) < 0 ∨ (0 ≤ (gA G 218 0 (x)) ∧ (gA G 217 0 (x)) ≤ (gA G 218 0 (x)) ∧ (gA G 261 0 (y)) ≤ (gA G 218 0 (x))))) → (gA G 216 0 (x)) = (gA G 260 0 (y)))) ∧ ∀ y, 0 ≤ y → y < t → ((gA G 215 0 (s)) = p → ((gA G 217 0 (s)) ≤ (gA G 262 0 (y)) ∧ (gA G 217 0 (s)) ≤ (gF G 12 0 0) ∧ (gA G 261 0 (y)) ≤ (gA G 262 0 (y)) ∧ (gA G 261 0 (y)) ≤ (gF G 12 0 0) ∧ ((gA G 218 0 (s)) < 0 ∨ (0 ≤ (gA G 218 0 (s)) ∧ (gA G 217 0 (s)) ≤ (gA G 218 0 (s)) ∧ (gA G 261 0 (y)) ≤ (gA G 218 0 (s))))) → (gA G 216 0 (s)) = (gA G 260 0 (y))))) with q | q; exact absurd (hw.trans q) h149; exact hw.trans q
                            have hA := b2i_eq1.mp (hw.symm.trans hv1)
                            refine pw_iload r_12_couldBe_152 rfl ?_
                            refine pw_if_eq r_12_couldBe_154 (fun h154 => ?_) (fun h154 => ?_)
                            · skip
                              refine pw_const r_12_couldBe_173 ?_
                              refine pw_goto r_12_couldBe_174 ?_
                              refine pw_istore (ls' := [some (vR 12 (0)), some (vI (p)), some (vI (1)), some (vI (s)), some (vI (z)), some (vI (t)), some (vI (gA G 262 (0) (t))), some (vI (gA G 261 (0) (t))), some (vI (1))]) r_12_couldBe_178 rfl rfl ?_
                              refine pw_iinc (b := 0) (ls' := [some (vR 12 (0)), some (vI (p)), some (vI (1)), some (vI (s)), some (vI (z)), some (vI ((t + 1))), some (vI (gA G 262 (0) (t))), some (vI (gA G 261 (0) (t))), some (vI (1))]) r_12_couldBe_179 rfl rfl (by omega) rfl ?_
                              refine pw_goto r_12_couldBe_182 ?_
                              refine pw_weakL (ls' := [some (vR 12 (0)), some (vI (p)), some (vI (1)), some (vI (s)), some (vI (z)), some (vI ((t + 1))), none, none, none]) (⟨rfl, ⟨rfl, ⟨rfl, ⟨rfl, ⟨rfl, ⟨rfl, trivial⟩⟩⟩⟩⟩⟩) ?_
                              exact ih39 ((t + 1)) (z) (1) (by omega) (hz) (by first | exact (b2i_t ⟨hA.1, all_s hA.2 (by intro _ _; omega)⟩).symm | exact (b2i_f (fun q => h149n ⟨q.1, fun y a b => q.2 y a (by omega)⟩)).symm | exact (b2i_f (fun q => by have := q.2 t (by omega) (by omega); omega)).symm) (by omega)
                            · skip
                              refine pw_aload r_12_couldBe_157 rfl ?_
                              refine pw_getR r_12_couldBe_158 fs_12_19 (by decide) ?_
                              refine pw_iload r_12_couldBe_161 rfl ?_
                              refine pw_iald r_12_couldBe_162 sh216 (by omega) (by omega) ?_
                              refine pw_aload r_12_couldBe_163 rfl ?_
                              refine pw_getR r_12_couldBe_164 fs_12_88 (by decide) ?_
                              refine pw_iload r_12_couldBe_167 rfl ?_
                              refine pw_iald r_12_couldBe_169 sh260 (by omega) (by omega) ?_
                              refine pw_icmp_ne r_12_couldBe_170 (fun h170 => ?_) (fun h170 => ?_)
                              · skip
                                refine pw_const r_12_couldBe_177 ?_
                                refine pw_istore (ls' := [some (vR 12 (0)), some (vI (p)), some (vI (0)), some (vI (s)), some (vI (z)), some (vI (t)), some (vI (gA G 262 (0) (t))), some (vI (gA G 261 (0) (t))), some (vI (1))]) r_12_couldBe_178 rfl rfl ?_
                                refine pw_iinc (b := 0) (ls' := [some (vR 12 (0)), some (vI (p)), some (vI (0)), some (vI (s)), some (vI (z)), some (vI ((t + 1))), some (vI (gA G 262 (0) (t))), some (vI (gA G 261 (0) (t))), some (vI (1))]) r_12_couldBe_179 rfl rfl (by omega) rfl ?_
                                refine pw_goto r_12_couldBe_182 ?_
                                refine pw_weakL (ls' := [some (vR 12 (0)), some (vI (p)), some (vI (0)), some (vI (s)), some (vI (z)), some (vI ((t + 1))), none, none, none]) (⟨rfl, ⟨rfl, ⟨rfl, ⟨rfl, ⟨rfl, ⟨rfl, trivial⟩⟩⟩⟩⟩⟩) ?_
                                exact ih39 ((t + 1)) (z) (0) (by omega) (hz) (by first | exact (b2i_t ⟨hA.1, all_s hA.2 (by intro _ _; omega)⟩).symm | exact (b2i_f (fun q => h149n ⟨q.1, fun y a b => q.2 y a (by omega)⟩)).symm | exact (b2i_f (fun q => by have := q.2 t (by omega) (by omega); omega)).symm) (by omega)
                              · skip
                                refine pw_const r_12_couldBe_173 ?_
                                refine pw_goto r_12_couldBe_174 ?_
                                refine pw_istore (ls' := [some (vR 12 (0)), some (vI (p)), some (vI (1)), some (vI (s)), some (vI (z)), some (vI (t)), some (vI (gA G 262 (0) (t))), some (vI (gA G 261 (0) (t))), some (vI (1))]) r_12_couldBe_178 rfl rfl ?_
                                refine pw_iinc (b := 0) (ls' := [some (vR 12 (0)), some (vI (p)), some (vI (1)), some (vI (s)), some (vI (z)), some (vI ((t + 1))), some (vI (gA G 262 (0) (t))), some (vI (gA G 261 (0) (t))), some (vI (1))]) r_12_couldBe_179 rfl rfl (by omega) rfl ?_
                                refine pw_goto r_12_couldBe_182 ?_
                                refine pw_weakL (ls' := [some (vR 12 (0)), some (vI (p)), some (vI (1)), some (vI (s)), some (vI (z)), some (vI ((t + 1))), none, none, none]) (⟨rfl, ⟨rfl, ⟨rfl, ⟨rfl, ⟨rfl, ⟨rfl, trivial⟩⟩⟩⟩⟩⟩) ?_
                                exact ih39 ((t + 1)) (z) (1) (by omega) (hz) (by first | exact (b2i_t ⟨hA.1, all_s hA.2 (by intro _ _; omega)⟩).symm | exact (b2i_f (fun q => h149n ⟨q.1, fun y a b => q.2 y a (by omega)⟩)).symm | exact (b2i_f (fun q => by have := q.2 t (by omega) (by omega); omega)).symm) (by omega)
                    · skip
                      refine pw_aload r_12_couldBe_104 rfl ?_
                      refine pw_getR r_12_couldBe_105 fs_12_20 (by decide) ?_
                      refine pw_iload r_12_couldBe_108 rfl ?_
                      refine pw_iald r_12_couldBe_109 sh217 (by omega) (by omega) ?_
                      refine pw_goto r_12_couldBe_110 ?_
                      refine pw_istore (ls' := [some (vR 12 (0)), some (vI (p)), some (vI (v)), some (vI (s)), some (vI (z)), some (vI (t)), some (vI (gA G 262 (0) (t))), some (vI (gA G 217 (0) (s))), none]) r_12_couldBe_120 rfl rfl ?_
                      refine pw_iload r_12_couldBe_122 rfl ?_
                      refine pw_iload r_12_couldBe_124 rfl ?_
                      refine pw_iload r_12_couldBe_126 rfl ?_
                      refine pw_icmp_ge r_12_couldBe_128 (fun h128 => ?_) (fun h128 => ?_)
                      · skip
                        refine pw_iload r_12_couldBe_136 rfl ?_
                        refine pw_icmp_gt r_12_couldBe_138 (fun h138 => ?_) (fun h138 => ?_)
                        · skip
                          refine pw_const r_12_couldBe_145 ?_
                          refine pw_istore (ls' := [some (vR 12 (0)), some (vI (p)), some (vI (v)), some (vI (s)), some (vI (z)), some (vI (t)), some (vI (gA G 262 (0) (t))), some (vI (gA G 217 (0) (s))), some (vI (0))]) r_12_couldBe_146 rfl rfl ?_
                          refine pw_iload r_12_couldBe_148 rfl ?_
                          refine pw_if_eq r_12_couldBe_149 (fun h149 => ?_) (fun h149 => ?_)
                          · skip
                            have h149n := b2i_eq0.mp (hw.symm.trans h149)
                            refine pw_const r_12_couldBe_177 ?_
                            refine pw_istore (ls' := [some (vR 12 (0)), some (vI (p)), some (vI (0)), some (vI (s)), some (vI (z)), some (vI (t)), some (vI (gA G 262 (0) (t))), some (vI (gA G 217 (0) (s))), some (vI (0))]) r_12_couldBe_178 rfl rfl ?_
                            refine pw_iinc (b := 0) (ls' := [some (vR 12 (0)), some (vI (p)), some (vI (0)), some (vI (s)), some (vI (z)), some (vI ((t + 1))), some (vI (gA G 262 (0) (t))), some (vI (gA G 217 (0) (s))), some (vI (0))]) r_12_couldBe_179 rfl rfl (by omega) rfl ?_
                            refine pw_goto r_12_couldBe_182 ?_
                            refine pw_weakL (ls' := [some (vR 12 (0)), some (vI (p)), some (vI (0)), some (vI (s)), some (vI (z)), some (vI ((t + 1))), none, none, none]) (⟨rfl, ⟨rfl, ⟨rfl, ⟨rfl, ⟨rfl, ⟨rfl, trivial⟩⟩⟩⟩⟩⟩) ?_
                            exact ih39 ((t + 1)) (z) (0) (by omega) (hz) (by first | exact (b2i_t ⟨hA.1, all_s hA.2 (by intro _ _; omega)⟩).symm | exact (b2i_f (fun q => h149n ⟨q.1, fun y a b => q.2 y a (by omega)⟩)).symm | exact (b2i_f (fun q => by have := q.2 t (by omega) (by omega); omega)).symm) (by omega)
                          · skip
                            have hv1 : v = 1 := by rcases b2i_01 (((∀ x, 0 ≤ x → x < s → ∀ y, 0 ≤ y → y < (gF G 12 0 91) → ((gA G 215 0 (x)) = p → ((gA G 217 0 (x)) ≤ (gA G 262 0 (y)) ∧ (gA G 217 0 (x)) ≤ (gF G 12 0 0) ∧ (gA G 261 0 (y)) ≤ (gA G 262 0 (y)) ∧ (gA G 261 0 (y)) ≤ (gF G 12 0 0) ∧ ((gA G 218 0 (x)) < 0 ∨ (0 ≤ (gA G 218 0 (x)) ∧ (gA G 217 0 (x)) ≤ (gA G 218 0 (x)) ∧ (gA G 261 0 (y)) ≤ (gA G 218 0 (x))))) → (gA G 216 0 (x)) = (gA G 260 0 (y)))) ∧ ∀ y, 0 ≤ y → y < t → ((gA G 215 0 (s)) = p → ((gA G 217 0 (s)) ≤ (gA G 262 0 (y)) ∧ (gA G 217 0 (s)) ≤ (gF G 12 0 0) ∧ (gA G 261 0 (y)) ≤ (gA G 262 0 (y)) ∧ (gA G 261 0 (y)) ≤ (gF G 12 0 0) ∧ ((gA G 218 0 (s)) < 0 ∨ (0 ≤ (gA G 218 0 (s)) ∧ (gA G 217 0 (s)) ≤ (gA G 218 0 (s)) ∧ (gA G 261 0 (y)) ≤ (gA G 218 0 (s))))) → (gA G 216 0 (s)) = (gA G 260 0 (y))))) with q | q; exact absurd (hw.trans q) h149; exact hw.trans q
                            have hA := b2i_eq1.mp (hw.symm.trans hv1)
                            refine pw_iload r_12_couldBe_152 rfl ?_
                            refine pw_if_eq r_12_couldBe_154 (fun h154 => ?_) (fun h154 => ?_)
                            · skip
                              refine pw_const r_12_couldBe_173 ?_
                              refine pw_goto r_12_couldBe_174 ?_
                              refine pw_istore (ls' := [some (vR 12 (0)), some (vI (p)), some (vI (1)), some (vI (s)), some (vI (z)), some (vI (t)), some (vI (gA G 262 (0) (t))), some (vI (gA G 217 (0) (s))), some (vI (0))]) r_12_couldBe_178 rfl rfl ?_
                              refine pw_iinc (b := 0) (ls' := [some (vR 12 (0)), some (vI (p)), some (vI (1)), some (vI (s)), some (vI (z)), some (vI ((t + 1))), some (vI (gA G 262 (0) (t))), some (vI (gA G 217 (0) (s))), some (vI (0))]) r_12_couldBe_179 rfl rfl (by omega) rfl ?_
                              refine pw_goto r_12_couldBe_182 ?_
                              refine pw_weakL (ls' := [some (vR 12 (0)), some (vI (p)), some (vI (1)), some (vI (s)), some (vI (z)), some (vI ((t + 1))), none, none, none]) (⟨rfl, ⟨rfl, ⟨rfl, ⟨rfl, ⟨rfl, ⟨rfl, trivial⟩⟩⟩⟩⟩⟩) ?_
                              exact ih39 ((t + 1)) (z) (1) (by omega) (hz) (by first | exact (b2i_t ⟨hA.1, all_s hA.2 (by intro _ _; omega)⟩).symm | exact (b2i_f (fun q => h149n ⟨q.1, fun y a b => q.2 y a (by omega)⟩)).symm | exact (b2i_f (fun q => by have := q.2 t (by omega) (by omega); omega)).symm) (by omega)
                            · skip
                              refine pw_aload r_12_couldBe_157 rfl ?_
                              refine pw_getR r_12_couldBe_158 fs_12_19 (by decide) ?_
                              refine pw_iload r_12_couldBe_161 rfl ?_
                              refine pw_iald r_12_couldBe_162 sh216 (by omega) (by omega) ?_
                              refine pw_aload r_12_couldBe_163 rfl ?_
                              refine pw_getR r_12_couldBe_164 fs_12_88 (by decide) ?_
                              refine pw_iload r_12_couldBe_167 rfl ?_
                              refine pw_iald r_12_couldBe_169 sh260 (by omega) (by omega) ?_
                              refine pw_icmp_ne r_12_couldBe_170 (fun h170 => ?_) (fun h170 => ?_)
                              · skip
                                refine pw_const r_12_couldBe_177 ?_
                                refine pw_istore (ls' := [some (vR 12 (0)), some (vI (p)), some (vI (0)), some (vI (s)), some (vI (z)), some (vI (t)), some (vI (gA G 262 (0) (t))), some (vI (gA G 217 (0) (s))), some (vI (0))]) r_12_couldBe_178 rfl rfl ?_
                                refine pw_iinc (b := 0) (ls' := [some (vR 12 (0)), some (vI (p)), some (vI (0)), some (vI (s)), some (vI (z)), some (vI ((t + 1))), some (vI (gA G 262 (0) (t))), some (vI (gA G 217 (0) (s))), some (vI (0))]) r_12_couldBe_179 rfl rfl (by omega) rfl ?_
                                refine pw_goto r_12_couldBe_182 ?_
                                refine pw_weakL (ls' := [some (vR 12 (0)), some (vI (p)), some (vI (0)), some (vI (s)), some (vI (z)), some (vI ((t + 1))), none, none, none]) (⟨rfl, ⟨rfl, ⟨rfl, ⟨rfl, ⟨rfl, ⟨rfl, trivial⟩⟩⟩⟩⟩⟩) ?_
                                exact ih39 ((t + 1)) (z) (0) (by omega) (hz) (by first | exact (b2i_t ⟨hA.1, all_s hA.2 (by intro _ _; omega)⟩).symm | exact (b2i_f (fun q => h149n ⟨q.1, fun y a b => q.2 y a (by omega)⟩)).symm | exact (b2i_f (fun q => by have := q.2 t (by omega) (by omega); omega)).symm) (by omega)
                              · skip
                                refine pw_const r_12_couldBe_173 ?_
                                refine pw_goto r_12_couldBe_174 ?_
                                refine pw_istore (ls' := [some (vR 12 (0)), some (vI (p)), some (vI (1)), some (vI (s)), some (vI (z)), some (vI (t)), some (vI (gA G 262 (0) (t))), some (vI (gA G 217 (0) (s))), some (vI (0))]) r_12_couldBe_178 rfl rfl ?_
                                refine pw_iinc (b := 0) (ls' := [some (vR 12 (0)), some (vI (p)), some (vI (1)), some (vI (s)), some (vI (z)), some (vI ((t + 1))), some (vI (gA G 262 (0) (t))), some (vI (gA G 217 (0) (s))), some (vI (0))]) r_12_couldBe_179 rfl rfl (by omega) rfl ?_
                                refine pw_goto r_12_couldBe_182 ?_
                                refine pw_weakL (ls' := [some (vR 12 (0)), some (vI (p)), some (vI (1)), some (vI (s)), some (vI (z)), some (vI ((t + 1))), none, none, none]) (⟨rfl, ⟨rfl, ⟨rfl, ⟨rfl, ⟨rfl, ⟨rfl, trivial⟩⟩⟩⟩⟩⟩) ?_
                                exact ih39 ((t + 1)) (z) (1) (by omega) (hz) (by first | exact (b2i_t ⟨hA.1, all_s hA.2 (by intro _ _; omega)⟩).symm | exact (b2i_f (fun q => h149n ⟨q.1, fun y a b => q.2 y a (by omega)⟩)).symm | exact (b2i_f (fun q => by have := q.2 t (by omega) (by omega); omega)).symm) (by omega)
                        · skip
                          refine pw_const r_12_couldBe_141 ?_
                          refine pw_goto r_12_couldBe_142 ?_
                          refine pw_istore (ls' := [some (vR 12 (0)), some (vI (p)), some (vI (v)), some (vI (s)), some (vI (z)), some (vI (t)), some (vI (gA G 262 (0) (t))), some (vI (gA G 217 (0) (s))), some (vI (1))]) r_12_couldBe_146 rfl rfl ?_
                          refine pw_iload r_12_couldBe_148 rfl ?_
                          refine pw_if_eq r_12_couldBe_149 (fun h149 => ?_) (fun h149 => ?_)
                          · skip
                            have h149n := b2i_eq0.mp (hw.symm.trans h149)
                            refine pw_const r_12_couldBe_177 ?_
                            refine pw_istore (ls' := [some (vR 12 (0)), some (vI (p)), some (vI (0)), some (vI (s)), some (vI (z)), some (vI (t)), some (vI (gA G 262 (0) (t))), some (vI (gA G 217 (0) (s))), some (vI (1))]) r_12_couldBe_178 rfl rfl ?_
                            refine pw_iinc (b := 0) (ls' := [some (vR 12 (0)), some (vI (p)), some (vI (0)), some (vI (s)), some (vI (z)), some (vI ((t + 1))), some (vI (gA G 262 (0) (t))), some (vI (gA G 217 (0) (s))), some (vI (1))]) r_12_couldBe_179 rfl rfl (by omega) rfl ?_
                            refine pw_goto r_12_couldBe_182 ?_
                            refine pw_weakL (ls' := [some (vR 12 (0)), some (vI (p)), some (vI (0)), some (vI (s)), some (vI (z)), some (vI ((t + 1))), none, none, none]) (⟨rfl, ⟨rfl, ⟨rfl, ⟨rfl, ⟨rfl, ⟨rfl, trivial⟩⟩⟩⟩⟩⟩) ?_
                            exact ih39 ((t + 1)) (z) (0) (by omega) (hz) (by first | exact (b2i_t ⟨hA.1, all_s hA.2 (by intro _ _; omega)⟩).symm | exact (b2i_f (fun q => h149n ⟨q.1, fun y a b => q.2 y a (by omega)⟩)).symm | exact (b2i_f (fun q => by have := q.2 t (by omega) (by omega); omega)).symm) (by omega)
                          · skip
                            have hv1 : v = 1 := by rcases b2i_01 (((∀ x, 0 ≤ x → x < s → ∀ y, 0 ≤ y → y < (gF G 12 0 91) → ((gA G 215 0 (x)) = p → ((gA G 217 0 (x)) ≤ (gA G 262 0 (y)) ∧ (gA G 217 0 (x)) ≤ (gF G 12 0 0) ∧ (gA G 261 0 (y)) ≤ (gA G 262 0 (y)) ∧ (gA G 261 0 (y)) ≤ (gF G 12 0 0) ∧ ((gA G 218 0 (x)) < 0 ∨ (0 ≤ (gA G 218 0 (x)) ∧ (gA G 217 0 (x)) ≤ (gA G 218 0 (x)) ∧ (gA G 261 0 (y)) ≤ (gA G 218 0 (x))))) → (gA G 216 0 (x)) = (gA G 260 0 (y)))) ∧ ∀ y, 0 ≤ y → y < t → ((gA G 215 0 (s)) = p → ((gA G 217 0 (s)) ≤ (gA G 262 0 (y)) ∧ (gA G 217 0 (s)) ≤ (gF G 12 0 0) ∧ (gA G 261 0 (y)) ≤ (gA G 262 0 (y)) ∧ (gA G 261 0 (y)) ≤ (gF G 12 0 0) ∧ ((gA G 218 0 (s)) < 0 ∨ (0 ≤ (gA G 218 0 (s)) ∧ (gA G 217 0 (s)) ≤ (gA G 218 0 (s)) ∧ (gA G 261 0 (y)) ≤ (gA G 218 0 (s))))) → (gA G 216 0 (s)) = (gA G 260 0 (y))))) with q | q; exact absurd (hw.trans q) h149; exact hw.trans q
                            have hA := b2i_eq1.mp (hw.symm.trans hv1)
                            refine pw_iload r_12_couldBe_152 rfl ?_
                            refine pw_if_eq r_12_couldBe_154 (fun h154 => ?_) (fun h154 => ?_)
                            · skip
                              refine pw_const r_12_couldBe_173 ?_
                              refine pw_goto r_12_couldBe_174 ?_
                              refine pw_istore (ls' := [some (vR 12 (0)), some (vI (p)), some (vI (1)), some (vI (s)), some (vI (z)), some (vI (t)), some (vI (gA G 262 (0) (t))), some (vI (gA G 217 (0) (s))), some (vI (1))]) r_12_couldBe_178 rfl rfl ?_
                              refine pw_iinc (b := 0) (ls' := [some (vR 12 (0)), some (vI (p)), some (vI (1)), some (vI (s)), some (vI (z)), some (vI ((t + 1))), some (vI (gA G 262 (0) (t))), some (vI (gA G 217 (0) (s))), some (vI (1))]) r_12_couldBe_179 rfl rfl (by omega) rfl ?_
                              refine pw_goto r_12_couldBe_182 ?_
                              refine pw_weakL (ls' := [some (vR 12 (0)), some (vI (p)), some (vI (1)), some (vI (s)), some (vI (z)), some (vI ((t + 1))), none, none, none]) (⟨rfl, ⟨rfl, ⟨rfl, ⟨rfl, ⟨rfl, ⟨rfl, trivial⟩⟩⟩⟩⟩⟩) ?_
                              exact ih39 ((t + 1)) (z) (1) (by omega) (hz) (by first | exact (b2i_t ⟨hA.1, all_s hA.2 (by intro _ _; omega)⟩).symm | exact (b2i_f (fun q => h149n ⟨q.1, fun y a b => q.2 y a (by omega)⟩)).symm | exact (b2i_f (fun q => by have := q.2 t (by omega) (by omega); omega)).symm) (by omega)
                            · skip
                              refine pw_aload r_12_couldBe_157 rfl ?_
                              refine pw_getR r_12_couldBe_158 fs_12_19 (by decide) ?_
                              refine pw_iload r_12_couldBe_161 rfl ?_
                              refine pw_iald r_12_couldBe_162 sh216 (by omega) (by omega) ?_
                              refine pw_aload r_12_couldBe_163 rfl ?_
                              refine pw_getR r_12_couldBe_164 fs_12_88 (by decide) ?_
                              refine pw_iload r_12_couldBe_167 rfl ?_
                              refine pw_iald r_12_couldBe_169 sh260 (by omega) (by omega) ?_
                              refine pw_icmp_ne r_12_couldBe_170 (fun h170 => ?_) (fun h170 => ?_)
                              · skip
                                refine pw_const r_12_couldBe_177 ?_
                                refine pw_istore (ls' := [some (vR 12 (0)), some (vI (p)), some (vI (0)), some (vI (s)), some (vI (z)), some (vI (t)), some (vI (gA G 262 (0) (t))), some (vI (gA G 217 (0) (s))), some (vI (1))]) r_12_couldBe_178 rfl rfl ?_
                                refine pw_iinc (b := 0) (ls' := [some (vR 12 (0)), some (vI (p)), some (vI (0)), some (vI (s)), some (vI (z)), some (vI ((t + 1))), some (vI (gA G 262 (0) (t))), some (vI (gA G 217 (0) (s))), some (vI (1))]) r_12_couldBe_179 rfl rfl (by omega) rfl ?_
                                refine pw_goto r_12_couldBe_182 ?_
                                refine pw_weakL (ls' := [some (vR 12 (0)), some (vI (p)), some (vI (0)), some (vI (s)), some (vI (z)), some (vI ((t + 1))), none, none, none]) (⟨rfl, ⟨rfl, ⟨rfl, ⟨rfl, ⟨rfl, ⟨rfl, trivial⟩⟩⟩⟩⟩⟩) ?_
                                exact ih39 ((t + 1)) (z) (0) (by omega) (hz) (by first | exact (b2i_t ⟨hA.1, all_s hA.2 (by intro _ _; omega)⟩).symm | exact (b2i_f (fun q => h149n ⟨q.1, fun y a b => q.2 y a (by omega)⟩)).symm | exact (b2i_f (fun q => by have := q.2 t (by omega) (by omega); omega)).symm) (by omega)
                              · skip
                                refine pw_const r_12_couldBe_173 ?_
                                refine pw_goto r_12_couldBe_174 ?_
                                refine pw_istore (ls' := [some (vR 12 (0)), some (vI (p)), some (vI (1)), some (vI (s)), some (vI (z)), some (vI (t)), some (vI (gA G 262 (0) (t))), some (vI (gA G 217 (0) (s))), some (vI (1))]) r_12_couldBe_178 rfl rfl ?_
                                refine pw_iinc (b := 0) (ls' := [some (vR 12 (0)), some (vI (p)), some (vI (1)), some (vI (s)), some (vI (z)), some (vI ((t + 1))), some (vI (gA G 262 (0) (t))), some (vI (gA G 217 (0) (s))), some (vI (1))]) r_12_couldBe_179 rfl rfl (by omega) rfl ?_
                                refine pw_goto r_12_couldBe_182 ?_
                                refine pw_weakL (ls' := [some (vR 12 (0)), some (vI (p)), some (vI (1)), some (vI (s)), some (vI (z)), some (vI ((t + 1))), none, none, none]) (⟨rfl, ⟨rfl, ⟨rfl, ⟨rfl, ⟨rfl, ⟨rfl, trivial⟩⟩⟩⟩⟩⟩) ?_
                                exact ih39 ((t + 1)) (z) (1) (by omega) (hz) (by first | exact (b2i_t ⟨hA.1, all_s hA.2 (by intro _ _; omega)⟩).symm | exact (b2i_f (fun q => h149n ⟨q.1, fun y a b => q.2 y a (by omega)⟩)).symm | exact (b2i_f (fun q => by have := q.2 t (by omega) (by omega); omega)).symm) (by omega)
                      · skip
                        refine pw_iload r_12_couldBe_131 rfl ?_
                        refine pw_goto r_12_couldBe_133 ?_
                        refine pw_icmp_gt r_12_couldBe_138 (fun h138 => ?_) (fun h138 => ?_)
                        · skip
                          refine pw_const r_12_couldBe_145 ?_
                          refine pw_istore (ls' := [some (vR 12 (0)), some (vI (p)), some (vI (v)), some (vI (s)), some (vI (z)), some (vI (t)), some (vI (gA G 262 (0) (t))), some (vI (gA G 217 (0) (s))), some (vI (0))]) r_12_couldBe_146 rfl rfl ?_
                          refine pw_iload r_12_couldBe_148 rfl ?_
                          refine pw_if_eq r_12_couldBe_149 (fun h149 => ?_) (fun h149 => ?_)
                          · skip
                            have h149n := b2i_eq0.mp (hw.symm.trans h149)
                            refine pw_const r_12_couldBe_177 ?_
                            refine pw_istore (ls' := [some (vR 12 (0)), some (vI (p)), some (vI (0)), some (vI (s)), some (vI (z)), some (vI (t)), some (vI (gA G 262 (0) (t))), some (vI (gA G 217 (0) (s))), some (vI (0))]) r_12_couldBe_178 rfl rfl ?_
                            refine pw_iinc (b := 0) (ls' := [some (vR 12 (0)), some (vI (p)), some (vI (0)), some (vI (s)), some (vI (z)), some (vI ((t + 1))), some (vI (gA G 262 (0) (t))), some (vI (gA G 217 (0) (s))), some (vI (0))]) r_12_couldBe_179 rfl rfl (by omega) rfl ?_
                            refine pw_goto r_12_couldBe_182 ?_
                            refine pw_weakL (ls' := [some (vR 12 (0)), some (vI (p)), some (vI (0)), some (vI (s)), some (vI (z)), some (vI ((t + 1))), none, none, none]) (⟨rfl, ⟨rfl, ⟨rfl, ⟨rfl, ⟨rfl, ⟨rfl, trivial⟩⟩⟩⟩⟩⟩) ?_
                            exact ih39 ((t + 1)) (z) (0) (by omega) (hz) (by first | exact (b2i_t ⟨hA.1, all_s hA.2 (by intro _ _; omega)⟩).symm | exact (b2i_f (fun q => h149n ⟨q.1, fun y a b => q.2 y a (by omega)⟩)).symm | exact (b2i_f (fun q => by have := q.2 t (by omega) (by omega); omega)).symm) (by omega)
                          · skip
                            have hv1 : v = 1 := by rcases b2i_01 (((∀ x, 0 ≤ x → x < s → ∀ y, 0 ≤ y → y < (gF G 12 0 91) → ((gA G 215 0 (x)) = p → ((gA G 217 0 (x)) ≤ (gA G 262 0 (y)) ∧ (gA G 217 0 (x)) ≤ (gF G 12 0 0) ∧ (gA G 261 0 (y)) ≤ (gA G 262 0 (y)) ∧ (gA G 261 0 (y)) ≤ (gF G 12 0 0) ∧ ((gA G 218 0 (x)) < 0 ∨ (0 ≤ (gA G 218 0 (x)) ∧ (gA G 217 0 (x)) ≤ (gA G 218 0 (x)) ∧ (gA G 261 0 (y)) ≤ (gA G 218 0 (x))))) → (gA G 216 0 (x)) = (gA G 260 0 (y)))) ∧ ∀ y, 0 ≤ y → y < t → ((gA G 215 0 (s)) = p → ((gA G 217 0 (s)) ≤ (gA G 262 0 (y)) ∧ (gA G 217 0 (s)) ≤ (gF G 12 0 0) ∧ (gA G 261 0 (y)) ≤ (gA G 262 0 (y)) ∧ (gA G 261 0 (y)) ≤ (gF G 12 0 0) ∧ ((gA G 218 0 (s)) < 0 ∨ (0 ≤ (gA G 218 0 (s)) ∧ (gA G 217 0 (s)) ≤ (gA G 218 0 (s)) ∧ (gA G 261 0 (y)) ≤ (gA G 218 0 (s))))) → (gA G 216 0 (s)) = (gA G 260 0 (y))))) with q | q; exact absurd (hw.trans q) h149; exact hw.trans q
                            have hA := b2i_eq1.mp (hw.symm.trans hv1)
                            refine pw_iload r_12_couldBe_152 rfl ?_
                            refine pw_if_eq r_12_couldBe_154 (fun h154 => ?_) (fun h154 => ?_)
                            · skip
                              refine pw_const r_12_couldBe_173 ?_
                              refine pw_goto r_12_couldBe_174 ?_
                              refine pw_istore (ls' := [some (vR 12 (0)), some (vI (p)), some (vI (1)), some (vI (s)), some (vI (z)), some (vI (t)), some (vI (gA G 262 (0) (t))), some (vI (gA G 217 (0) (s))), some (vI (0))]) r_12_couldBe_178 rfl rfl ?_
                              refine pw_iinc (b := 0) (ls' := [some (vR 12 (0)), some (vI (p)), some (vI (1)), some (vI (s)), some (vI (z)), some (vI ((t + 1))), some (vI (gA G 262 (0) (t))), some (vI (gA G 217 (0) (s))), some (vI (0))]) r_12_couldBe_179 rfl rfl (by omega) rfl ?_
                              refine pw_goto r_12_couldBe_182 ?_
                              refine pw_weakL (ls' := [some (vR 12 (0)), some (vI (p)), some (vI (1)), some (vI (s)), some (vI (z)), some (vI ((t + 1))), none, none, none]) (⟨rfl, ⟨rfl, ⟨rfl, ⟨rfl, ⟨rfl, ⟨rfl, trivial⟩⟩⟩⟩⟩⟩) ?_
                              exact ih39 ((t + 1)) (z) (1) (by omega) (hz) (by first | exact (b2i_t ⟨hA.1, all_s hA.2 (by intro _ _; omega)⟩).symm | exact (b2i_f (fun q => h149n ⟨q.1, fun y a b => q.2 y a (by omega)⟩)).symm | exact (b2i_f (fun q => by have := q.2 t (by omega) (by omega); omega)).symm) (by omega)
                            · skip
                              refine pw_aload r_12_couldBe_157 rfl ?_
                              refine pw_getR r_12_couldBe_158 fs_12_19 (by decide) ?_
                              refine pw_iload r_12_couldBe_161 rfl ?_
                              refine pw_iald r_12_couldBe_162 sh216 (by omega) (by omega) ?_
                              refine pw_aload r_12_couldBe_163 rfl ?_
                              refine pw_getR r_12_couldBe_164 fs_12_88 (by decide) ?_
                              refine pw_iload r_12_couldBe_167 rfl ?_
                              refine pw_iald r_12_couldBe_169 sh260 (by omega) (by omega) ?_
                              refine pw_icmp_ne r_12_couldBe_170 (fun h170 => ?_) (fun h170 => ?_)
                              · skip
                                refine pw_const r_12_couldBe_177 ?_
                                refine pw_istore (ls' := [some (vR 12 (0)), some (vI (p)), some (vI (0)), some (vI (s)), some (vI (z)), some (vI (t)), some (vI (gA G 262 (0) (t))), some (vI (gA G 217 (0) (s))), some (vI (0))]) r_12_couldBe_178 rfl rfl ?_
                                refine pw_iinc (b := 0) (ls' := [some (vR 12 (0)), some (vI (p)), some (vI (0)), some (vI (s)), some (vI (z)), some (vI ((t + 1))), some (vI (gA G 262 (0) (t))), some (vI (gA G 217 (0) (s))), some (vI (0))]) r_12_couldBe_179 rfl rfl (by omega) rfl ?_
                                refine pw_goto r_12_couldBe_182 ?_
                                refine pw_weakL (ls' := [some (vR 12 (0)), some (vI (p)), some (vI (0)), some (vI (s)), some (vI (z)), some (vI ((t + 1))), none, none, none]) (⟨rfl, ⟨rfl, ⟨rfl, ⟨rfl, ⟨rfl, ⟨rfl, trivial⟩⟩⟩⟩⟩⟩) ?_
                                exact ih39 ((t + 1)) (z) (0) (by omega) (hz) (by first | exact (b2i_t ⟨hA.1, all_s hA.2 (by intro _ _; omega)⟩).symm | exact (b2i_f (fun q => h149n ⟨q.1, fun y a b => q.2 y a (by omega)⟩)).symm | exact (b2i_f (fun q => by have := q.2 t (by omega) (by omega); omega)).symm) (by omega)
                              · skip
                                refine pw_const r_12_couldBe_173 ?_
                                refine pw_goto r_12_couldBe_174 ?_
                                refine pw_istore (ls' := [some (vR 12 (0)), some (vI (p)), some (vI (1)), some (vI (s)), some (vI (z)), some (vI (t)), some (vI (gA G 262 (0) (t))), some (vI (gA G 217 (0) (s))), some (vI (0))]) r_12_couldBe_178 rfl rfl ?_
                                refine pw_iinc (b := 0) (ls' := [some (vR 12 (0)), some (vI (p)), some (vI (1)), some (vI (s)), some (vI (z)), some (vI ((t + 1))), some (vI (gA G 262 (0) (t))), some (vI (gA G 217 (0) (s))), some (vI (0))]) r_12_couldBe_179 rfl rfl (by omega) rfl ?_
                                refine pw_goto r_12_couldBe_182 ?_
                                refine pw_weakL (ls' := [some (vR 12 (0)), some (vI (p)), some (vI (1)), some (vI (s)), some (vI (z)), some (vI ((t + 1))), none, none, none]) (⟨rfl, ⟨rfl, ⟨rfl, ⟨rfl, ⟨rfl, ⟨rfl, trivial⟩⟩⟩⟩⟩⟩) ?_
                                exact ih39 ((t + 1)) (z) (1) (by omega) (hz) (by first | exact (b2i_t ⟨hA.1, all_s hA.2 (by intro _ _; omega)⟩).symm | exact (b2i_f (fun q => h149n ⟨q.1, fun y a b => q.2 y a (by omega)⟩)).symm | exact (b2i_f (fun q => by have := q.2 t (by omega) (by omega); omega)).symm) (by omega)
                        · skip
                          refine pw_const r_12_couldBe_141 ?_
                          refine pw_goto r_12_couldBe_142 ?_
                          refine pw_istore (ls' := [some (vR 12 (0)), some (vI (p)), some (vI (v)), some (vI (s)), some (vI (z)), some (vI (t)), some (vI (gA G 262 (0) (t))), some (vI (gA G 217 (0) (s))), some (vI (1))]) r_12_couldBe_146 rfl rfl ?_
                          refine pw_iload r_12_couldBe_148 rfl ?_
                          refine pw_if_eq r_12_couldBe_149 (fun h149 => ?_) (fun h149 => ?_)
                          · skip
                            have h149n := b2i_eq0.mp (hw.symm.trans h149)
                            refine pw_const r_12_couldBe_177 ?_
                            refine pw_istore (ls' := [some (vR 12 (0)), some (vI (p)), some (vI (0)), some (vI (s)), some (vI (z)), some (vI (t)), some (vI (gA G 262 (0) (t))), some (vI (gA G 217 (0) (s))), some (vI (1))]) r_12_couldBe_178 rfl rfl ?_
                            refine pw_iinc (b := 0) (ls' := [some (vR 12 (0)), some (vI (p)), some (vI (0)), some (vI (s)), some (vI (z)), some (vI ((t + 1))), some (vI (gA G 262 (0) (t))), some (vI (gA G 217 (0) (s))), some (vI (1))]) r_12_couldBe_179 rfl rfl (by omega) rfl ?_
                            refine pw_goto r_12_couldBe_182 ?_
                            refine pw_weakL (ls' := [some (vR 12 (0)), some (vI (p)), some (vI (0)), some (vI (s)), some (vI (z)), some (vI ((t + 1))), none, none, none]) (⟨rfl, ⟨rfl, ⟨rfl, ⟨rfl, ⟨rfl, ⟨rfl, trivial⟩⟩⟩⟩⟩⟩) ?_
                            exact ih39 ((t + 1)) (z) (0) (by omega) (hz) (by first | exact (b2i_t ⟨hA.1, all_s hA.2 (by intro _ _; omega)⟩).symm | exact (b2i_f (fun q => h149n ⟨q.1, fun y a b => q.2 y a (by omega)⟩)).symm | exact (b2i_f (fun q => by have := q.2 t (by omega) (by omega); omega)).symm) (by omega)
                          · skip
                            have hv1 : v = 1 := by rcases b2i_01 (((∀ x, 0 ≤ x → x < s → ∀ y, 0 ≤ y → y < (gF G 12 0 91) → ((gA G 215 0 (x)) = p → ((gA G 217 0 (x)) ≤ (gA G 262 0 (y)) ∧ (gA G 217 0 (x)) ≤ (gF G 12 0 0) ∧ (gA G 261 0 (y)) ≤ (gA G 262 0 (y)) ∧ (gA G 261 0 (y)) ≤ (gF G 12 0 0) ∧ ((gA G 218 0 (x)) < 0 ∨ (0 ≤ (gA G 218 0 (x)) ∧ (gA G 217 0 (x)) ≤ (gA G 218 0 (x)) ∧ (gA G 261 0 (y)) ≤ (gA G 218 0 (x))))) → (gA G 216 0 (x)) = (gA G 260 0 (y)))) ∧ ∀ y, 0 ≤ y → y < t → ((gA G 215 0 (s)) = p → ((gA G 217 0 (s)) ≤ (gA G 262 0 (y)) ∧ (gA G 217 0 (s)) ≤ (gF G 12 0 0) ∧ (gA G 261 0 (y)) ≤ (gA G 262 0 (y)) ∧ (gA G 261 0 (y)) ≤ (gF G 12 0 0) ∧ ((gA G 218 0 (s)) < 0 ∨ (0 ≤ (gA G 218 0 (s)) ∧ (gA G 217 0 (s)) ≤ (gA G 218 0 (s)) ∧ (gA G 261 0 (y)) ≤ (gA G 218 0 (s))))) → (gA G 216 0 (s)) = (gA G 260 0 (y))))) with q | q; exact absurd (hw.trans q) h149; exact hw.trans q
                            have hA := b2i_eq1.mp (hw.symm.trans hv1)
                            refine pw_iload r_12_couldBe_152 rfl ?_
                            refine pw_if_eq r_12_couldBe_154 (fun h154 => ?_) (fun h154 => ?_)
                            · skip
                              refine pw_const r_12_couldBe_173 ?_
                              refine pw_goto r_12_couldBe_174 ?_
                              refine pw_istore (ls' := [some (vR 12 (0)), some (vI (p)), some (vI (1)), some (vI (s)), some (vI (z)), some (vI (t)), some (vI (gA G 262 (0) (t))), some (vI (gA G 217 (0) (s))), some (vI (1))]) r_12_couldBe_178 rfl rfl ?_
                              refine pw_iinc (b := 0) (ls' := [some (vR 12 (0)), some (vI (p)), some (vI (1)), some (vI (s)), some (vI (z)), some (vI ((t + 1))), some (vI (gA G 262 (0) (t))), some (vI (gA G 217 (0) (s))), some (vI (1))]) r_12_couldBe_179 rfl rfl (by omega) rfl ?_
                              refine pw_goto r_12_couldBe_182 ?_
                              refine pw_weakL (ls' := [some (vR 12 (0)), some (vI (p)), some (vI (1)), some (vI (s)), some (vI (z)), some (vI ((t + 1))), none, none, none]) (⟨rfl, ⟨rfl, ⟨rfl, ⟨rfl, ⟨rfl, ⟨rfl, trivial⟩⟩⟩⟩⟩⟩) ?_
                              exact ih39 ((t + 1)) (z) (1) (by omega) (hz) (by first | exact (b2i_t ⟨hA.1, all_s hA.2 (by intro _ _; omega)⟩).symm | exact (b2i_f (fun q => h149n ⟨q.1, fun y a b => q.2 y a (by omega)⟩)).symm | exact (b2i_f (fun q => by have := q.2 t (by omega) (by omega); omega)).symm) (by omega)
                            · skip
                              refine pw_aload r_12_couldBe_157 rfl ?_
                              refine pw_getR r_12_couldBe_158 fs_12_19 (by decide) ?_
                              refine pw_iload r_12_couldBe_161 rfl ?_
                              refine pw_iald r_12_couldBe_162 sh216 (by omega) (by omega) ?_
                              refine pw_aload r_12_couldBe_163 rfl ?_
                              refine pw_getR r_12_couldBe_164 fs_12_88 (by decide) ?_
                              refine pw_iload r_12_couldBe_167 rfl ?_
                              refine pw_iald r_12_couldBe_169 sh260 (by omega) (by omega) ?_
                              refine pw_icmp_ne r_12_couldBe_170 (fun h170 => ?_) (fun h170 => ?_)
                              · skip
                                refine pw_const r_12_couldBe_177 ?_
                                refine pw_istore (ls' := [some (vR 12 (0)), some (vI (p)), some (vI (0)), some (vI (s)), some (vI (z)), some (vI (t)), some (vI (gA G 262 (0) (t))), some (vI (gA G 217 (0) (s))), some (vI (1))]) r_12_couldBe_178 rfl rfl ?_
                                refine pw_iinc (b := 0) (ls' := [some (vR 12 (0)), some (vI (p)), some (vI (0)), some (vI (s)), some (vI (z)), some (vI ((t + 1))), some (vI (gA G 262 (0) (t))), some (vI (gA G 217 (0) (s))), some (vI (1))]) r_12_couldBe_179 rfl rfl (by omega) rfl ?_
                                refine pw_goto r_12_couldBe_182 ?_
                                refine pw_weakL (ls' := [some (vR 12 (0)), some (vI (p)), some (vI (0)), some (vI (s)), some (vI (z)), some (vI ((t + 1))), none, none, none]) (⟨rfl, ⟨rfl, ⟨rfl, ⟨rfl, ⟨rfl, ⟨rfl, trivial⟩⟩⟩⟩⟩⟩) ?_
                                exact ih39 ((t + 1)) (z) (0) (by omega) (hz) (by first | exact (b2i_t ⟨hA.1, all_s hA.2 (by intro _ _; omega)⟩).symm | exact (b2i_f (fun q => h149n ⟨q.1, fun y a b => q.2 y a (by omega)⟩)).symm | exact (b2i_f (fun q => by have := q.2 t (by omega) (by omega); omega)).symm) (by omega)
                              · skip
                                refine pw_const r_12_couldBe_173 ?_
                                refine pw_goto r_12_couldBe_174 ?_
                                refine pw_istore (ls' := [some (vR 12 (0)), some (vI (p)), some (vI (1)), some (vI (s)), some (vI (z)), some (vI (t)), some (vI (gA G 262 (0) (t))), some (vI (gA G 217 (0) (s))), some (vI (1))]) r_12_couldBe_178 rfl rfl ?_
                                refine pw_iinc (b := 0) (ls' := [some (vR 12 (0)), some (vI (p)), some (vI (1)), some (vI (s)), some (vI (z)), some (vI ((t + 1))), some (vI (gA G 262 (0) (t))), some (vI (gA G 217 (0) (s))), some (vI (1))]) r_12_couldBe_179 rfl rfl (by omega) rfl ?_
                                refine pw_goto r_12_couldBe_182 ?_
                                refine pw_weakL (ls' := [some (vR 12 (0)), some (vI (p)), some (vI (1)), some (vI (s)), some (vI (z)), some (vI ((t + 1))), none, none, none]) (⟨rfl, ⟨rfl, ⟨rfl, ⟨rfl, ⟨rfl, ⟨rfl, trivial⟩⟩⟩⟩⟩⟩) ?_
                                exact ih39 ((t + 1)) (z) (1) (by omega) (hz) (by first | exact (b2i_t ⟨hA.1, all_s hA.2 (by intro _ _; omega)⟩).symm | exact (b2i_f (fun q => h149n ⟨q.1, fun y a b => q.2 y a (by omega)⟩)).symm | exact (b2i_f (fun q => by have := q.2 t (by omega) (by omega); omega)).symm) (by omega)
          exact L39 _ (0) (gF G 12 (0) 0) (v) (by omega) (by omega) (hv.trans (b2i_congr ⟨fun q => ⟨q, fun y a b => by omega⟩, fun q => q.1⟩)) (Nat.lt_succ_self _)
  exact L4 _ (0) (1) (by omega) ((b2i_t (fun x a b => by omega)).symm) (Nat.lt_succ_self _)
set_option maxRecDepth 10000 in
theorem sp_X1_seek {l : Launch} {w : Wo} {d : Nat} {G : PH} {P : Option PV → PH → Prop} {z : Int} (hp : ∀ i, 0 ≤ i → i < (gF G 1 0 1) → gD G 30 0 i = some (3, i)) (hsz : 0 ≤ (gF G 1 0 1) ∧ (gF G 1 0 1) ≤ 150) (hst : 0 ≤ (gF G 1 0 3) ∧ (gF G 1 0 3) ≤ 400) (hso : 0 ≤ (gF G 1 0 13) ∧ (gF G 1 0 13) ≤ 5) (h1 : ¬ (0 ≤ z ∧ z ≤ 1) → P (some (vI (-1))) G) (h2 : (0 ≤ z ∧ z ≤ 1) → ((gF G 1 0 13) = 0) → P (some (vI (-3))) G) (h3 : (0 ≤ z ∧ z ≤ 1) → ((gF G 1 0 13) ≠ 0) → ∀ F n, SelOk (fun i => (((gF G 3 (i) 2) = z ∧ (gF G 3 (i) 8) ≤ 4) ∧ (∀ x, 0 ≤ x → x < (gF G 1 0 3) → ∀ y, 0 ≤ y → y < (gF G 1 0 13) → ((gA G 32 0 (x)) = i → ((gA G 34 0 (x)) ≤ (gA G 38 0 (y)) ∧ (gA G 37 0 (y)) ≤ (gA G 38 0 (y)) ∧ (((gA G 35 0 (x)) = -1 ∧ (gA G 34 0 (x)) ≤ (gF G 1 0 2) ∧ (gA G 37 0 (y)) ≤ (gF G 1 0 2)) ∨ ((gA G 35 0 (x)) ≠ -1 ∧ (gA G 34 0 (x)) ≤ (gA G 35 0 (x)) ∧ (gA G 37 0 (y)) ≤ (gA G 35 0 (x))))) → (gA G 33 0 (x)) = (gA G 36 0 (y)))))) (gF G 1 0 1) F n → P (some (vI n)) (sF (uA G 39 0 (F)) 1 0 15 (n))) : PW l w M_X1_seek (d + 2) 0 [some (vR 1 (0)), some (vI (z)), none, none] [] G P := by
  refine pw_iload r_1_seek_0 rfl ?_
  refine pw_callS (av := [vI (z)]) (st := []) (ls0 := [some (vI (z))]) r_1_seek_1 rfl rfl rfl (Nat.le_refl _) ?_
  refine sp_X11_isSide  ?_
  refine pw_if_neB r_1_seek_4 (fun h04 => ?_) (fun h04 => ?_)
  · skip
    refine pw_aload r_1_seek_9 rfl ?_
    refine pw_getI r_1_seek_10 fs_1_13 (by decide) ?_
    refine pw_if_ne r_1_seek_13 (fun h13 => ?_) (fun h13 => ?_)
    · skip
      refine pw_aload r_1_seek_19 rfl ?_
      refine pw_const r_1_seek_20 ?_
      refine pw_putI r_1_seek_21 (by decide +kernel) fs_1_15 (by decide) ?_
      refine pw_const r_1_seek_24 ?_
      refine pw_istore (ls' := [some (vR 1 (0)), some (vI (z)), some (vI (0)), none]) r_1_seek_25 rfl rfl ?_
      have L26 : ∀ (nF : Nat) (i n : Int) (F : Int → Int), (hi : 0 ≤ i ∧ i ≤ (gF G 1 0 1)) → (hs : SelOk (fun i => (((gF G 3 (i) 2) = z ∧ (gF G 3 (i) 8) ≤ 4) ∧ (∀ x, 0 ≤ x → x < (gF G 1 0 3) → ∀ y, 0 ≤ y → y < (gF G 1 0 13) → ((gA G 32 0 (x)) = i → ((gA G 34 0 (x)) ≤ (gA G 38 0 (y)) ∧ (gA G 37 0 (y)) ≤ (gA G 38 0 (y)) ∧ (((gA G 35 0 (x)) = -1 ∧ (gA G 34 0 (x)) ≤ (gF G 1 0 2) ∧ (gA G 37 0 (y)) ≤ (gF G 1 0 2)) ∨ ((gA G 35 0 (x)) ≠ -1 ∧ (gA G 34 0 (x)) ≤ (gA G 35 0 (x)) ∧ (gA G 37 0 (y)) ≤ (gA G 35 0 (x))))) → (gA G 33 0 (x)) = (gA G 36 0 (y)))))) i F n) → (hnb : 0 ≤ n ∧ n ≤ i) → ((gF G 1 0 1) - i).toNat < nF → PW l w M_X1_seek (d + 2) 26 [some (vR 1 (0)), some (vI (z)), some (vI (i)), none] [] (sF (uA G 39 (0) (F)) 1 (0) 15 (n)) P := by
        intro nF
        induction nF with
        | zero => intro _ _ _ _ _ _ hM; exact absurd hM (Nat.not_lt_zero _)
        | succ nF ih26 =>
          intro i n F hi hs hnb hM26
          refine pw_iload r_1_seek_26 rfl ?_
          refine pw_aload r_1_seek_27 rfl ?_
          refine pw_getIv (v := gF G 1 (0) 1) r_1_seek_28 fs_1_1 (by decide) (by first | rfl | simp [gF_sF, gF_sA, gF_uA, gF_sD, gA_sF, gA_sA, gA_uA, gA_sD, gD_sF, gD_sA, gD_uA, gD_sD]) ?_
          refine pw_icmp_ge r_1_seek_31 (fun h31 => ?_) (fun h31 => ?_)
          · skip
            have ei : i = (gF G 1 0 1) := by omega
            subst ei
            refine pw_aload r_1_seek_95 rfl ?_
            refine pw_getIv (v := n) r_1_seek_96 fs_1_15 (by decide) (by first | rfl | simp [gF_sF, gF_sA, gF_uA, gF_sD, gA_sF, gA_sA, gA_uA, gA_sD, gD_sF, gD_sA, gD_uA, gD_sD]) ?_
            refine pw_iret r_1_seek_99 rfl (Nat.le_refl _) ⟨rfl, ?_⟩
            first | exact h1 (by omega) | exact h2 (by omega) (by omega) | exact h3 (by omega) (by omega) F n hs
          · skip
            refine pw_aload r_1_seek_34 rfl ?_
            refine pw_getR r_1_seek_35 fs_1_0 (by decide) ?_
            refine pw_iload r_1_seek_38 rfl ?_
            refine pw_aaldPv (q := some (3, i)) r_1_seek_39 (by omega) (by omega) (hp i (by omega) (by omega)) ?_
            refine pw_astore (ls' := [some (vR 1 (0)), some (vI (z)), some (vI (i)), some (vR 3 (i))]) r_1_seek_40 rfl rfl ?_
            refine pw_aload r_1_seek_41 rfl ?_
            refine pw_ifnull r_1_seek_42 (fun q => by cases q) (fun _ _ => ?_)
            refine pw_aload r_1_seek_45 rfl ?_
            refine pw_getIv (v := gF G 3 (i) 2) r_1_seek_46 fs_3_2 (by decide) (by first | rfl | simp [gF_sF, gF_sA, gF_uA, gF_sD, gA_sF, gA_sA, gA_uA, gA_sD, gD_sF, gD_sA, gD_uA, gD_sD]) ?_
            refine pw_iload r_1_seek_49 rfl ?_
            refine pw_icmp_ne r_1_seek_50 (fun h50 => ?_) (fun h50 => ?_)
            · skip
              refine pw_iinc (b := 0) (ls' := [some (vR 1 (0)), some (vI (z)), some (vI ((i + 1))), some (vR 3 (i))]) r_1_seek_89 rfl rfl (by omega) rfl ?_
              refine pw_goto r_1_seek_92 ?_
              refine pw_weakL (ls' := [some (vR 1 (0)), some (vI (z)), some (vI ((i + 1))), none]) (⟨rfl, ⟨rfl, ⟨rfl, trivial⟩⟩⟩) ?_
              exact ih26 ((i + 1)) (n) (F) (by omega) (by first | exact Sel_t hs hi.1 (show (((gF G 3 (i) 2) = z ∧ (gF G 3 (i) 8) ≤ 4) ∧ (∀ x, 0 ≤ x → x < (gF G 1 0 3) → ∀ y, 0 ≤ y → y < (gF G 1 0 13) → ((gA G 32 0 (x)) = i → ((gA G 34 0 (x)) ≤ (gA G 38 0 (y)) ∧ (gA G 37 0 (y)) ≤ (gA G 38 0 (y)) ∧ (((gA G 35 0 (x)) = -1 ∧ (gA G 34 0 (x)) ≤ (gF G 1 0 2) ∧ (gA G 37 0 (y)) ≤ (gF G 1 0 2)) ∨ ((gA G 35 0 (x)) ≠ -1 ∧ (gA G 34 0 (x)) ≤ (gA G 35 0 (x)) ∧ (gA G 37 0 (y)) ≤ (gA G 35 0 (x))))) → (gA G 33 0 (x)) = (gA G 36 0 (y))))) from ⟨by omega, by assumption⟩) rfl | exact Sel_f hs hi.1 (fun q => by omega) | exact Sel_f hs hi.1 (fun q => by exact absurd q.2 (by assumption))) (by omega) (by omega)
            · skip
              refine pw_aload r_1_seek_53 rfl ?_
              refine pw_getIv (v := gF G 3 (i) 8) r_1_seek_54 fs_3_8 (by decide) (by first | rfl | simp [gF_sF, gF_sA, gF_uA, gF_sD, gA_sF, gA_sA, gA_uA, gA_sD, gD_sF, gD_sA, gD_uA, gD_sD]) ?_
              refine pw_const r_1_seek_57 ?_
              refine pw_icmp_gt r_1_seek_58 (fun h58 => ?_) (fun h58 => ?_)
              · skip
                refine pw_iinc (b := 0) (ls' := [some (vR 1 (0)), some (vI (z)), some (vI ((i + 1))), some (vR 3 (i))]) r_1_seek_89 rfl rfl (by omega) rfl ?_
                refine pw_goto r_1_seek_92 ?_
                refine pw_weakL (ls' := [some (vR 1 (0)), some (vI (z)), some (vI ((i + 1))), none]) (⟨rfl, ⟨rfl, ⟨rfl, trivial⟩⟩⟩) ?_
                exact ih26 ((i + 1)) (n) (F) (by omega) (by first | exact Sel_t hs hi.1 (show (((gF G 3 (i) 2) = z ∧ (gF G 3 (i) 8) ≤ 4) ∧ (∀ x, 0 ≤ x → x < (gF G 1 0 3) → ∀ y, 0 ≤ y → y < (gF G 1 0 13) → ((gA G 32 0 (x)) = i → ((gA G 34 0 (x)) ≤ (gA G 38 0 (y)) ∧ (gA G 37 0 (y)) ≤ (gA G 38 0 (y)) ∧ (((gA G 35 0 (x)) = -1 ∧ (gA G 34 0 (x)) ≤ (gF G 1 0 2) ∧ (gA G 37 0 (y)) ≤ (gF G 1 0 2)) ∨ ((gA G 35 0 (x)) ≠ -1 ∧ (gA G 34 0 (x)) ≤ (gA G 35 0 (x)) ∧ (gA G 37 0 (y)) ≤ (gA G 35 0 (x))))) → (gA G 33 0 (x)) = (gA G 36 0 (y))))) from ⟨by omega, by assumption⟩) rfl | exact Sel_f hs hi.1 (fun q => by omega) | exact Sel_f hs hi.1 (fun q => by exact absurd q.2 (by assumption))) (by omega) (by omega)
              · skip
                refine pw_aload r_1_seek_61 rfl ?_
                refine pw_iload r_1_seek_62 rfl ?_
                refine pw_callV (av := [vI (i)]) (st := []) (ls0 := [some (vR 1 (0)), some (vI (i)), none, none, none, none]) r_1_seek_63 rfl rfl rfl (Nat.le_refl _) ?_
                refine sp_X1_couldBeSought (by first | assumption | exact hst | omega) (by first | assumption | exact hso | omega) ?_
                intros
                refine pw_top (b := b2i (∀ x, 0 ≤ x → x < (gF G 1 (0) 3) → ∀ y, 0 ≤ y → y < (gF G 1 (0) 13) → ((gA G 32 (0) (x)) = i → ((gA G 34 (0) (x)) ≤ (gA G 38 (0) (y)) ∧ (gA G 37 (0) (y)) ≤ (gA G 38 (0) (y)) ∧ (((gA G 35 (0) (x)) = -1 ∧ (gA G 34 (0) (x)) ≤ (gF G 1 (0) 2) ∧ (gA G 37 (0) (y)) ≤ (gF G 1 (0) 2)) ∨ ((gA G 35 (0) (x)) ≠ -1 ∧ (gA G 34 (0) (x)) ≤ (gA G 35 (0) (x)) ∧ (gA G 37 (0) (y)) ≤ (gA G 35 (0) (x))))) → (gA G 33 (0) (x)) = (gA G 36 (0) (y))))) (by first | rfl | simp (disch := decide) [gF_sF, gF_sA, gF_uA, gF_sD, gA_sF, gA_sA, gA_uA, gA_sD, gD_sF, gD_sA, gD_uA, gD_sD]) ?_
                refine pw_if_eqB r_1_seek_66 (fun h66 => ?_) (fun h66 => ?_)
                · skip
                  refine pw_iinc (b := 0) (ls' := [some (vR 1 (0)), some (vI (z)), some (vI ((i + 1))), some (vR 3 (i))]) r_1_seek_89 rfl rfl (by omega) rfl ?_
                  refine pw_goto r_1_seek_92 ?_
                  refine pw_weakL (ls' := [some (vR 1 (0)), some (vI (z)), some (vI ((i + 1))), none]) (⟨rfl, ⟨rfl, ⟨rfl, trivial⟩⟩⟩) ?_
                  exact ih26 ((i + 1)) (n) (F) (by omega) (by first | exact Sel_t hs hi.1 (show (((gF G 3 (i) 2) = z ∧ (gF G 3 (i) 8) ≤ 4) ∧ (∀ x, 0 ≤ x → x < (gF G 1 0 3) → ∀ y, 0 ≤ y → y < (gF G 1 0 13) → ((gA G 32 0 (x)) = i → ((gA G 34 0 (x)) ≤ (gA G 38 0 (y)) ∧ (gA G 37 0 (y)) ≤ (gA G 38 0 (y)) ∧ (((gA G 35 0 (x)) = -1 ∧ (gA G 34 0 (x)) ≤ (gF G 1 0 2) ∧ (gA G 37 0 (y)) ≤ (gF G 1 0 2)) ∨ ((gA G 35 0 (x)) ≠ -1 ∧ (gA G 34 0 (x)) ≤ (gA G 35 0 (x)) ∧ (gA G 37 0 (y)) ≤ (gA G 35 0 (x))))) → (gA G 33 0 (x)) = (gA G 36 0 (y))))) from ⟨by omega, by assumption⟩) rfl | exact Sel_f hs hi.1 (fun q => by omega) | exact Sel_f hs hi.1 (fun q => by exact absurd q.2 (by assumption))) (by omega) (by omega)
                · skip
                  refine pw_aload r_1_seek_69 rfl ?_
                  refine pw_getR r_1_seek_70 fs_1_14 (by decide) ?_
                  refine pw_aload r_1_seek_73 rfl ?_
                  refine pw_getIv (v := n) r_1_seek_74 fs_1_15 (by decide) (by first | rfl | simp [gF_sF, gF_sA, gF_uA, gF_sD, gA_sF, gA_sA, gA_uA, gA_sD, gD_sF, gD_sA, gD_uA, gD_sD]) ?_
                  refine pw_iload r_1_seek_77 rfl ?_
                  refine pw_iast r_1_seek_78 sh39 (by omega) (by omega) ?_
                  refine pw_aload r_1_seek_79 rfl ?_
                  refine pw_dup r_1_seek_80 rfl ?_
                  refine pw_getIv (v := n) r_1_seek_81 fs_1_15 (by decide) (by first | rfl | simp [gF_sF, gF_sA, gF_uA, gF_sD, gA_sF, gA_sA, gA_uA, gA_sD, gD_sF, gD_sA, gD_uA, gD_sD]) ?_
                  refine pw_const r_1_seek_84 ?_
                  refine pw_iadd r_1_seek_85 (by omega) ?_
                  refine pw_putI r_1_seek_86 (by decide +kernel) fs_1_15 (by decide) ?_
                  refine pw_iinc (b := 0) (ls' := [some (vR 1 (0)), some (vI (z)), some (vI ((i + 1))), some (vR 3 (i))]) r_1_seek_89 rfl rfl (by omega) rfl ?_
                  refine pw_goto r_1_seek_92 ?_
                  refine pw_weakL (ls' := [some (vR 1 (0)), some (vI (z)), some (vI ((i + 1))), none]) (⟨rfl, ⟨rfl, ⟨rfl, trivial⟩⟩⟩) ?_
                  refine pw_eqG (G' := sF (uA G 39 (0) ((upA F n i))) 1 (0) 15 ((n + 1))) (by first | rfl | (rw [sA_sF, sF_sF, sA_uA])) ?_
                  exact ih26 ((i + 1)) ((n + 1)) ((upA F n i)) (by omega) (by first | exact Sel_t hs hi.1 (show (((gF G 3 (i) 2) = z ∧ (gF G 3 (i) 8) ≤ 4) ∧ (∀ x, 0 ≤ x → x < (gF G 1 0 3) → ∀ y, 0 ≤ y → y < (gF G 1 0 13) → ((gA G 32 0 (x)) = i → ((gA G 34 0 (x)) ≤ (gA G 38 0 (y)) ∧ (gA G 37 0 (y)) ≤ (gA G 38 0 (y)) ∧ (((gA G 35 0 (x)) = -1 ∧ (gA G 34 0 (x)) ≤ (gF G 1 0 2) ∧ (gA G 37 0 (y)) ≤ (gF G 1 0 2)) ∨ ((gA G 35 0 (x)) ≠ -1 ∧ (gA G 34 0 (x)) ≤ (gA G 35 0 (x)) ∧ (gA G 37 0 (y)) ≤ (gA G 35 0 (x))))) → (gA G 33 0 (x)) = (gA G 36 0 (y))))) from ⟨by omega, by assumption⟩) rfl | exact Sel_f hs hi.1 (fun q => by omega) | exact Sel_f hs hi.1 (fun q => by exact absurd q.2 (by assumption))) (by omega) (by omega)
      refine pw_eqG (G' := sF (uA G 39 (0) ((fun j => gA G 39 (0) j))) 1 (0) 15 (0)) (by rw [uA_self]) ?_
      exact L26 _ (0) (0) ((fun j => gA G 39 (0) j)) (by omega) (Sel_0 _ _) (by omega) (Nat.lt_succ_self _)
    · skip
      refine pw_const r_1_seek_16 ?_
      refine pw_iret r_1_seek_18 rfl (Nat.le_refl _) ⟨rfl, ?_⟩
      first | exact h1 (by omega) | exact h2 (by omega) (by omega) | exact h3 (by omega) (by omega) F n hs
  · skip
    refine pw_const r_1_seek_7 ?_
    refine pw_iret r_1_seek_8 rfl (Nat.le_refl _) ⟨rfl, ?_⟩
    first | exact h1 (by omega) | exact h2 (by omega) (by omega) | exact h3 (by omega) (by omega) F n hs
set_option maxRecDepth 10000 in
theorem sp_X12_find {l : Launch} {w : Wo} {d : Nat} {G : PH} {P : Option PV → PH → Prop} {z : Int} (hsz : 0 ≤ (gF G 12 0 17) ∧ (gF G 12 0 17) ≤ 150) (hst : 0 ≤ (gF G 12 0 22) ∧ (gF G 12 0 22) ≤ 400) (hso : 0 ≤ (gF G 12 0 91) ∧ (gF G 12 0 91) ≤ 5) (h1 : ¬ (0 ≤ z ∧ z ≤ 1) → P (some (vI (-1))) G) (h2 : (0 ≤ z ∧ z ≤ 1) → ((gF G 12 0 91) = 0) → P (some (vI (-3))) G) (h3 : (0 ≤ z ∧ z ≤ 1) → ((gF G 12 0 91) ≠ 0) → ∀ F n, SelOk (fun i => (((gA G 205 0 (i)) = z ∧ (gA G 206 0 (i)) ≤ 4) ∧ (∀ x, 0 ≤ x → x < (gF G 12 0 22) → ∀ y, 0 ≤ y → y < (gF G 12 0 91) → ((gA G 215 0 (x)) = i → ((gA G 217 0 (x)) ≤ (gA G 262 0 (y)) ∧ (gA G 217 0 (x)) ≤ (gF G 12 0 0) ∧ (gA G 261 0 (y)) ≤ (gA G 262 0 (y)) ∧ (gA G 261 0 (y)) ≤ (gF G 12 0 0) ∧ ((gA G 218 0 (x)) < 0 ∨ (0 ≤ (gA G 218 0 (x)) ∧ (gA G 217 0 (x)) ≤ (gA G 218 0 (x)) ∧ (gA G 261 0 (y)) ≤ (gA G 218 0 (x))))) → (gA G 216 0 (x)) = (gA G 260 0 (y)))))) (gF G 12 0 17) F n → P (some (vI n)) (sF (uA G 263 0 (F)) 12 0 93 (n))) : PW l w M_X12_find (d + 2) 0 [some (vR 12 (0)), some (vI (z)), none] [] G P := by
  refine pw_iload r_12_find_0 rfl ?_
  refine pw_callS (av := [vI (z)]) (st := []) (ls0 := [some (vI (z))]) r_12_find_1 rfl rfl rfl (Nat.le_refl _) ?_
  refine sp_X12_isSide  ?_
  refine pw_if_neB r_12_find_4 (fun h04 => ?_) (fun h04 => ?_)
  · skip
    refine pw_aload r_12_find_9 rfl ?_
    refine pw_getI r_12_find_10 fs_12_91 (by decide) ?_
    refine pw_if_ne r_12_find_13 (fun h13 => ?_) (fun h13 => ?_)
    · skip
      refine pw_aload r_12_find_19 rfl ?_
      refine pw_const r_12_find_20 ?_
      refine pw_putI r_12_find_21 (by decide +kernel) fs_12_93 (by decide) ?_
      refine pw_const r_12_find_24 ?_
      refine pw_istore (ls' := [some (vR 12 (0)), some (vI (z)), some (vI (0))]) r_12_find_25 rfl rfl ?_
      have L26 : ∀ (nF : Nat) (i n : Int) (F : Int → Int), (hi : 0 ≤ i ∧ i ≤ (gF G 12 0 17)) → (hs : SelOk (fun i => (((gA G 205 0 (i)) = z ∧ (gA G 206 0 (i)) ≤ 4) ∧ (∀ x, 0 ≤ x → x < (gF G 12 0 22) → ∀ y, 0 ≤ y → y < (gF G 12 0 91) → ((gA G 215 0 (x)) = i → ((gA G 217 0 (x)) ≤ (gA G 262 0 (y)) ∧ (gA G 217 0 (x)) ≤ (gF G 12 0 0) ∧ (gA G 261 0 (y)) ≤ (gA G 262 0 (y)) ∧ (gA G 261 0 (y)) ≤ (gF G 12 0 0) ∧ ((gA G 218 0 (x)) < 0 ∨ (0 ≤ (gA G 218 0 (x)) ∧ (gA G 217 0 (x)) ≤ (gA G 218 0 (x)) ∧ (gA G 261 0 (y)) ≤ (gA G 218 0 (x))))) → (gA G 216 0 (x)) = (gA G 260 0 (y)))))) i F n) → (hnb : 0 ≤ n ∧ n ≤ i) → ((gF G 12 0 17) - i).toNat < nF → PW l w M_X12_find (d + 2) 26 [some (vR 12 (0)), some (vI (z)), some (vI (i))] [] (sF (uA G 263 (0) (F)) 12 (0) 93 (n)) P := by
        intro nF
        induction nF with
        | zero => intro _ _ _ _ _ _ hM; exact absurd hM (Nat.not_lt_zero _)
        | succ nF ih26 =>
          intro i n F hi hs hnb hM26
          refine pw_iload r_12_find_26 rfl ?_
          refine pw_aload r_12_find_27 rfl ?_
          refine pw_getIv (v := gF G 12 (0) 17) r_12_find_28 fs_12_17 (by decide) (by first | rfl | simp [gF_sF, gF_sA, gF_uA, gF_sD, gA_sF, gA_sA, gA_uA, gA_sD, gD_sF, gD_sA, gD_uA, gD_sD]) ?_
          refine pw_icmp_ge r_12_find_31 (fun h31 => ?_) (fun h31 => ?_)
          · skip
            have ei : i = (gF G 12 0 17) := by omega
            subst ei
            refine pw_aload r_12_find_88 rfl ?_
            refine pw_getIv (v := n) r_12_find_89 fs_12_93 (by decide) (by first | rfl | simp [gF_sF, gF_sA, gF_uA, gF_sD, gA_sF, gA_sA, gA_uA, gA_sD, gD_sF, gD_sA, gD_uA, gD_sD]) ?_
            refine pw_iret r_12_find_92 rfl (Nat.le_refl _) ⟨rfl, ?_⟩
            first | exact h1 (by omega) | exact h2 (by omega) (by omega) | exact h3 (by omega) (by omega) F n hs
          · skip
            refine pw_aload r_12_find_34 rfl ?_
            refine pw_getR r_12_find_35 fs_12_7 (by decide) ?_
            refine pw_iload r_12_find_38 rfl ?_
            refine pw_ialdv (v := gA G 205 (0) (i)) r_12_find_39 sh205 (by omega) (by omega) (by first | rfl | simp [gF_sF, gF_sA, gF_uA, gF_sD, gA_sF, gA_sA, gA_uA, gA_sD, gD_sF, gD_sA, gD_uA, gD_sD]) ?_
            refine pw_iload r_12_find_40 rfl ?_
            refine pw_icmp_ne r_12_find_41 (fun h41 => ?_) (fun h41 => ?_)
            · skip
              refine pw_iinc (b := 0) (ls' := [some (vR 12 (0)), some (vI (z)), some (vI ((i + 1)))]) r_12_find_82 rfl rfl (by omega) rfl ?_
              refine pw_goto r_12_find_85 ?_
              exact ih26 ((i + 1)) (n) (F) (by omega) (by first | exact Sel_t hs hi.1 (show (((gA G 205 0 (i)) = z ∧ (gA G 206 0 (i)) ≤ 4) ∧ (∀ x, 0 ≤ x → x < (gF G 12 0 22) → ∀ y, 0 ≤ y → y < (gF G 12 0 91) → ((gA G 215 0 (x)) = i → ((gA G 217 0 (x)) ≤ (gA G 262 0 (y)) ∧ (gA G 217 0 (x)) ≤ (gF G 12 0 0) ∧ (gA G 261 0 (y)) ≤ (gA G 262 0 (y)) ∧ (gA G 261 0 (y)) ≤ (gF G 12 0 0) ∧ ((gA G 218 0 (x)) < 0 ∨ (0 ≤ (gA G 218 0 (x)) ∧ (gA G 217 0 (x)) ≤ (gA G 218 0 (x)) ∧ (gA G 261 0 (y)) ≤ (gA G 218 0 (x))))) → (gA G 216 0 (x)) = (gA G 260 0 (y))))) from ⟨by omega, by assumption⟩) rfl | exact Sel_f hs hi.1 (fun q => by omega) | exact Sel_f hs hi.1 (fun q => by exact absurd q.2 (by assumption))) (by omega) (by omega)
            · skip
              refine pw_aload r_12_find_44 rfl ?_
              refine pw_getR r_12_find_45 fs_12_8 (by decide) ?_
              refine pw_iload r_12_find_48 rfl ?_
              refine pw_ialdv (v := gA G 206 (0) (i)) r_12_find_49 sh206 (by omega) (by omega) (by first | rfl | simp [gF_sF, gF_sA, gF_uA, gF_sD, gA_sF, gA_sA, gA_uA, gA_sD, gD_sF, gD_sA, gD_uA, gD_sD]) ?_
              refine pw_const r_12_find_50 ?_
              refine pw_icmp_gt r_12_find_51 (fun h51 => ?_) (fun h51 => ?_)
              · skip
                refine pw_iinc (b := 0) (ls' := [some (vR 12 (0)), some (vI (z)), some (vI ((i + 1)))]) r_12_find_82 rfl rfl (by omega) rfl ?_
                refine pw_goto r_12_find_85 ?_
                exact ih26 ((i + 1)) (n) (F) (by omega) (by first | exact Sel_t hs hi.1 (show (((gA G 205 0 (i)) = z ∧ (gA G 206 0 (i)) ≤ 4) ∧ (∀ x, 0 ≤ x → x < (gF G 12 0 22) → ∀ y, 0 ≤ y → y < (gF G 12 0 91) → ((gA G 215 0 (x)) = i → ((gA G 217 0 (x)) ≤ (gA G 262 0 (y)) ∧ (gA G 217 0 (x)) ≤ (gF G 12 0 0) ∧ (gA G 261 0 (y)) ≤ (gA G 262 0 (y)) ∧ (gA G 261 0 (y)) ≤ (gF G 12 0 0) ∧ ((gA G 218 0 (x)) < 0 ∨ (0 ≤ (gA G 218 0 (x)) ∧ (gA G 217 0 (x)) ≤ (gA G 218 0 (x)) ∧ (gA G 261 0 (y)) ≤ (gA G 218 0 (x))))) → (gA G 216 0 (x)) = (gA G 260 0 (y))))) from ⟨by omega, by assumption⟩) rfl | exact Sel_f hs hi.1 (fun q => by omega) | exact Sel_f hs hi.1 (fun q => by exact absurd q.2 (by assumption))) (by omega) (by omega)
              · skip
                refine pw_aload r_12_find_54 rfl ?_
                refine pw_iload r_12_find_55 rfl ?_
                refine pw_callV (av := [vI (i)]) (st := []) (ls0 := [some (vR 12 (0)), some (vI (i)), none, none, none, none, none, none, none]) r_12_find_56 rfl rfl rfl (Nat.le_refl _) ?_
                refine sp_X12_couldBe (by first | assumption | exact hst | omega) (by first | assumption | exact hso | omega) ?_
                intros
                refine pw_top (b := b2i (∀ x, 0 ≤ x → x < (gF G 12 (0) 22) → ∀ y, 0 ≤ y → y < (gF G 12 (0) 91) → ((gA G 215 (0) (x)) = i → ((gA G 217 (0) (x)) ≤ (gA G 262 (0) (y)) ∧ (gA G 217 (0) (x)) ≤ (gF G 12 (0) 0) ∧ (gA G 261 (0) (y)) ≤ (gA G 262 (0) (y)) ∧ (gA G 261 (0) (y)) ≤ (gF G 12 (0) 0) ∧ ((gA G 218 (0) (x)) < 0 ∨ (0 ≤ (gA G 218 (0) (x)) ∧ (gA G 217 (0) (x)) ≤ (gA G 218 (0) (x)) ∧ (gA G 261 (0) (y)) ≤ (gA G 218 (0) (x))))) → (gA G 216 (0) (x)) = (gA G 260 (0) (y))))) (by first | rfl | simp (disch := decide) [gF_sF, gF_sA, gF_uA, gF_sD, gA_sF, gA_sA, gA_uA, gA_sD, gD_sF, gD_sA, gD_uA, gD_sD]) ?_
                refine pw_if_eqB r_12_find_59 (fun h59 => ?_) (fun h59 => ?_)
                · skip
                  refine pw_iinc (b := 0) (ls' := [some (vR 12 (0)), some (vI (z)), some (vI ((i + 1)))]) r_12_find_82 rfl rfl (by omega) rfl ?_
                  refine pw_goto r_12_find_85 ?_
                  exact ih26 ((i + 1)) (n) (F) (by omega) (by first | exact Sel_t hs hi.1 (show (((gA G 205 0 (i)) = z ∧ (gA G 206 0 (i)) ≤ 4) ∧ (∀ x, 0 ≤ x → x < (gF G 12 0 22) → ∀ y, 0 ≤ y → y < (gF G 12 0 91) → ((gA G 215 0 (x)) = i → ((gA G 217 0 (x)) ≤ (gA G 262 0 (y)) ∧ (gA G 217 0 (x)) ≤ (gF G 12 0 0) ∧ (gA G 261 0 (y)) ≤ (gA G 262 0 (y)) ∧ (gA G 261 0 (y)) ≤ (gF G 12 0 0) ∧ ((gA G 218 0 (x)) < 0 ∨ (0 ≤ (gA G 218 0 (x)) ∧ (gA G 217 0 (x)) ≤ (gA G 218 0 (x)) ∧ (gA G 261 0 (y)) ≤ (gA G 218 0 (x))))) → (gA G 216 0 (x)) = (gA G 260 0 (y))))) from ⟨by omega, by assumption⟩) rfl | exact Sel_f hs hi.1 (fun q => by omega) | exact Sel_f hs hi.1 (fun q => by exact absurd q.2 (by assumption))) (by omega) (by omega)
                · skip
                  refine pw_aload r_12_find_62 rfl ?_
                  refine pw_getR r_12_find_63 fs_12_92 (by decide) ?_
                  refine pw_aload r_12_find_66 rfl ?_
                  refine pw_getIv (v := n) r_12_find_67 fs_12_93 (by decide) (by first | rfl | simp [gF_sF, gF_sA, gF_uA, gF_sD, gA_sF, gA_sA, gA_uA, gA_sD, gD_sF, gD_sA, gD_uA, gD_sD]) ?_
                  refine pw_iload r_12_find_70 rfl ?_
                  refine pw_iast r_12_find_71 sh263 (by omega) (by omega) ?_
                  refine pw_aload r_12_find_72 rfl ?_
                  refine pw_dup r_12_find_73 rfl ?_
                  refine pw_getIv (v := n) r_12_find_74 fs_12_93 (by decide) (by first | rfl | simp [gF_sF, gF_sA, gF_uA, gF_sD, gA_sF, gA_sA, gA_uA, gA_sD, gD_sF, gD_sA, gD_uA, gD_sD]) ?_
                  refine pw_const r_12_find_77 ?_
                  refine pw_iadd r_12_find_78 (by omega) ?_
                  refine pw_putI r_12_find_79 (by decide +kernel) fs_12_93 (by decide) ?_
                  refine pw_iinc (b := 0) (ls' := [some (vR 12 (0)), some (vI (z)), some (vI ((i + 1)))]) r_12_find_82 rfl rfl (by omega) rfl ?_
                  refine pw_goto r_12_find_85 ?_
                  refine pw_eqG (G' := sF (uA G 263 (0) ((upA F n i))) 12 (0) 93 ((n + 1))) (by first | rfl | (rw [sA_sF, sF_sF, sA_uA])) ?_
                  exact ih26 ((i + 1)) ((n + 1)) ((upA F n i)) (by omega) (by first | exact Sel_t hs hi.1 (show (((gA G 205 0 (i)) = z ∧ (gA G 206 0 (i)) ≤ 4) ∧ (∀ x, 0 ≤ x → x < (gF G 12 0 22) → ∀ y, 0 ≤ y → y < (gF G 12 0 91) → ((gA G 215 0 (x)) = i → ((gA G 217 0 (x)) ≤ (gA G 262 0 (y)) ∧ (gA G 217 0 (x)) ≤ (gF G 12 0 0) ∧ (gA G 261 0 (y)) ≤ (gA G 262 0 (y)) ∧ (gA G 261 0 (y)) ≤ (gF G 12 0 0) ∧ ((gA G 218 0 (x)) < 0 ∨ (0 ≤ (gA G 218 0 (x)) ∧ (gA G 217 0 (x)) ≤ (gA G 218 0 (x)) ∧ (gA G 261 0 (y)) ≤ (gA G 218 0 (x))))) → (gA G 216 0 (x)) = (gA G 260 0 (y))))) from ⟨by omega, by assumption⟩) rfl | exact Sel_f hs hi.1 (fun q => by omega) | exact Sel_f hs hi.1 (fun q => by exact absurd q.2 (by assumption))) (by omega) (by omega)
      refine pw_eqG (G' := sF (uA G 263 (0) ((fun j => gA G 263 (0) j))) 12 (0) 93 (0)) (by rw [uA_self]) ?_
      exact L26 _ (0) (0) ((fun j => gA G 263 (0) j)) (by omega) (Sel_0 _ _) (by omega) (Nat.lt_succ_self _)
    · skip
      refine pw_const r_12_find_16 ?_
      refine pw_iret r_12_find_18 rfl (Nat.le_refl _) ⟨rfl, ?_⟩
      first | exact h1 (by omega) | exact h2 (by omega) (by omega) | exact h3 (by omega) (by omega) F n hs
  · skip
    refine pw_const r_12_find_7 ?_
    refine pw_iret r_12_find_8 rfl (Nat.le_refl _) ⟨rfl, ?_⟩
    first | exact h1 (by omega) | exact h2 (by omega) (by omega) | exact h3 (by omega) (by omega) F n hs
set_option maxRecDepth 10000 in
theorem sp_X1_tellFound {l : Launch} {w : Wo} {d : Nat} {G : PH} {P : Option PV → PH → Prop} {i : Int} (hf : (gF G 1 0 15) ≤ 150) (h1 : i = -1 → P (some (vI 1)) (sF G 1 0 13 (0))) (h2 : i ≠ -1 → (0 ≤ i ∧ i < (gF G 1 0 15)) → P (some (vI (gA G 39 0 (i)))) G) (h3 : i ≠ -1 → ¬ (0 ≤ i ∧ i < (gF G 1 0 15)) → P (some (vI (-1))) G) : PW l w M_X1_tellFound (d + 0) 0 [some (vR 1 (0)), some (vI (i))] [] G P := by
  refine pw_iload r_1_tellFound_0 rfl ?_
  refine pw_const r_1_tellFound_1 ?_
  refine pw_icmp_ne r_1_tellFound_2 (fun h02 => ?_) (fun h02 => ?_)
  · skip
    refine pw_iload r_1_tellFound_12 rfl ?_
    refine pw_if_lt r_1_tellFound_13 (fun h13 => ?_) (fun h13 => ?_)
    · skip
      refine pw_const r_1_tellFound_33 ?_
      refine pw_iret r_1_tellFound_34 rfl (Nat.le_refl _) ⟨rfl, ?_⟩
      first | exact h1 (by omega) | exact h2 (by omega) (by omega) | exact h3 (by omega) (by omega)
    · skip
      refine pw_iload r_1_tellFound_16 rfl ?_
      refine pw_aload r_1_tellFound_17 rfl ?_
      refine pw_getI r_1_tellFound_18 fs_1_15 (by decide) ?_
      refine pw_icmp_ge r_1_tellFound_21 (fun h21 => ?_) (fun h21 => ?_)
      · skip
        refine pw_const r_1_tellFound_33 ?_
        refine pw_iret r_1_tellFound_34 rfl (Nat.le_refl _) ⟨rfl, ?_⟩
        first | exact h1 (by omega) | exact h2 (by omega) (by omega) | exact h3 (by omega) (by omega)
      · skip
        refine pw_aload r_1_tellFound_24 rfl ?_
        refine pw_getR r_1_tellFound_25 fs_1_14 (by decide) ?_
        refine pw_iload r_1_tellFound_28 rfl ?_
        refine pw_iald r_1_tellFound_29 sh39 (by omega) (by omega) ?_
        refine pw_goto r_1_tellFound_30 ?_
        refine pw_iret r_1_tellFound_34 rfl (Nat.le_refl _) ⟨rfl, ?_⟩
        first | exact h1 (by omega) | exact h2 (by omega) (by omega) | exact h3 (by omega) (by omega)
  · skip
    refine pw_aload r_1_tellFound_5 rfl ?_
    refine pw_const r_1_tellFound_6 ?_
    refine pw_putI r_1_tellFound_7 (by decide +kernel) fs_1_13 (by decide) ?_
    refine pw_const r_1_tellFound_10 ?_
    refine pw_iret r_1_tellFound_11 rfl (Nat.le_refl _) ⟨rfl, ?_⟩
    first | exact h1 (by omega) | exact h2 (by omega) (by omega) | exact h3 (by omega) (by omega)
set_option maxRecDepth 10000 in
theorem sp_X12_found {l : Launch} {w : Wo} {d : Nat} {G : PH} {P : Option PV → PH → Prop} {i : Int} (hf : (gF G 12 0 93) ≤ 150) (h1 : i = -1 → P (some (vI 1)) (sF G 12 0 91 (0))) (h2 : i ≠ -1 → (0 ≤ i ∧ i < (gF G 12 0 93)) → P (some (vI (gA G 263 0 (i)))) G) (h3 : i ≠ -1 → ¬ (0 ≤ i ∧ i < (gF G 12 0 93)) → P (some (vI (-1))) G) : PW l w M_X12_found (d + 0) 0 [some (vR 12 (0)), some (vI (i))] [] G P := by
  refine pw_iload r_12_found_0 rfl ?_
  refine pw_const r_12_found_1 ?_
  refine pw_icmp_ne r_12_found_2 (fun h02 => ?_) (fun h02 => ?_)
  · skip
    refine pw_iload r_12_found_12 rfl ?_
    refine pw_if_lt r_12_found_13 (fun h13 => ?_) (fun h13 => ?_)
    · skip
      refine pw_const r_12_found_33 ?_
      refine pw_iret r_12_found_34 rfl (Nat.le_refl _) ⟨rfl, ?_⟩
      first | exact h1 (by omega) | exact h2 (by omega) (by omega) | exact h3 (by omega) (by omega)
    · skip
      refine pw_iload r_12_found_16 rfl ?_
      refine pw_aload r_12_found_17 rfl ?_
      refine pw_getI r_12_found_18 fs_12_93 (by decide) ?_
      refine pw_icmp_ge r_12_found_21 (fun h21 => ?_) (fun h21 => ?_)
      · skip
        refine pw_const r_12_found_33 ?_
        refine pw_iret r_12_found_34 rfl (Nat.le_refl _) ⟨rfl, ?_⟩
        first | exact h1 (by omega) | exact h2 (by omega) (by omega) | exact h3 (by omega) (by omega)
      · skip
        refine pw_aload r_12_found_24 rfl ?_
        refine pw_getR r_12_found_25 fs_12_92 (by decide) ?_
        refine pw_iload r_12_found_28 rfl ?_
        refine pw_iald r_12_found_29 sh263 (by omega) (by omega) ?_
        refine pw_goto r_12_found_30 ?_
        refine pw_iret r_12_found_34 rfl (Nat.le_refl _) ⟨rfl, ?_⟩
        first | exact h1 (by omega) | exact h2 (by omega) (by omega) | exact h3 (by omega) (by omega)
  · skip
    refine pw_aload r_12_found_5 rfl ?_
    refine pw_const r_12_found_6 ?_
    refine pw_putI r_12_found_7 (by decide +kernel) fs_12_91 (by decide) ?_
    refine pw_const r_12_found_10 ?_
    refine pw_iret r_12_found_11 rfl (Nat.le_refl _) ⟨rfl, ?_⟩
    first | exact h1 (by omega) | exact h2 (by omega) (by omega) | exact h3 (by omega) (by omega)
set_option maxRecDepth 10000 in
theorem sp_X6_addList {l : Launch} {w : Wo} {d : Nat} {G : PH} {P : Option PV → PH → Prop} {a b : Int} (hz6 : 0 ≤ (gF G 6 0 2) ∧ (gF G 6 0 2) ≤ 6) (h1 : ¬ ((0 ≤ a ∧ a ≤ 99) ∧ 0 ≤ b ∧ b ≤ 99) → P (some (vI (-1))) G) (h2 : (((0 ≤ a ∧ a ≤ 99) ∧ 0 ≤ b ∧ b ≤ 99)) → (6 ≤ (gF G 6 0 2)) → P (some (vI (-2))) G) (h3 : (((0 ≤ a ∧ a ≤ 99) ∧ 0 ≤ b ∧ b ≤ 99)) → (¬ (6 ≤ (gF G 6 0 2))) → P (some (vI ((gF G 6 0 2) + 1))) (sF (sA (sA G 60 0 ((gF G 6 0 2)) (a)) 61 0 ((gF G 6 0 2)) (b)) 6 0 2 ((gF G 6 0 2) + 1))) : PW l w M_X6_addList (d + 1) 0 [some (vR 6 (0)), some (vI (a)), some (vI (b))] [] G P := by
  refine pw_iload r_6_addList_0 rfl ?_
  refine pw_const r_6_addList_1 ?_
  refine pw_const r_6_addList_2 ?_
  refine pw_callS (av := [vI (a), vI (0), vI (99)]) (st := []) (ls0 := [some (vI (a)), some (vI (0)), some (vI (99))]) r_6_addList_4 rfl rfl rfl (Nat.le_refl _) ?_
  refine sp_X11_within  ?_
  refine pw_if_eqB r_6_addList_7 (fun h07 => ?_) (fun h07 => ?_)
  · skip
    refine pw_const r_6_addList_20 ?_
    refine pw_iret r_6_addList_21 rfl (Nat.le_refl _) ⟨rfl, ?_⟩
    first | exact h1 (by omega) | exact h2 (by omega) (by omega) | exact pe (h3 (by omega) (by omega)) (by first | rfl | omega)
  · skip
    refine pw_iload r_6_addList_10 rfl ?_
    refine pw_const r_6_addList_11 ?_
    refine pw_const r_6_addList_12 ?_
    refine pw_callS (av := [vI (b), vI (0), vI (99)]) (st := []) (ls0 := [some (vI (b)), some (vI (0)), some (vI (99))]) r_6_addList_14 rfl rfl rfl (Nat.le_refl _) ?_
    refine sp_X11_within  ?_
    refine pw_if_neB r_6_addList_17 (fun h17 => ?_) (fun h17 => ?_)
    · skip
      refine pw_aload r_6_addList_22 rfl ?_
      refine pw_getI r_6_addList_23 fs_6_2 (by decide) ?_
      refine pw_const r_6_addList_26 ?_
      refine pw_icmp_lt r_6_addList_28 (fun h28 => ?_) (fun h28 => ?_)
      · skip
        refine pw_aload r_6_addList_34 rfl ?_
        refine pw_getR r_6_addList_35 fs_6_0 (by decide) ?_
        refine pw_aload r_6_addList_38 rfl ?_
        refine pw_getI r_6_addList_39 fs_6_2 (by decide) ?_
        refine pw_iload r_6_addList_42 rfl ?_
        refine pw_iast r_6_addList_43 sh60 (by omega) (by omega) ?_
        refine pw_aload r_6_addList_44 rfl ?_
        refine pw_getR r_6_addList_45 fs_6_1 (by decide) ?_
        refine pw_aload r_6_addList_48 rfl ?_
        refine pw_getIv (v := gF G 6 (0) 2) r_6_addList_49 fs_6_2 (by decide) (by first | rfl | simp [gF_sF, gF_sA, gF_uA, gF_sD, gA_sF, gA_sA, gA_uA, gA_sD, gD_sF, gD_sA, gD_uA, gD_sD]) ?_
        refine pw_iload r_6_addList_52 rfl ?_
        refine pw_iast r_6_addList_53 sh61 (by omega) (by omega) ?_
        refine pw_aload r_6_addList_54 rfl ?_
        refine pw_dup r_6_addList_55 rfl ?_
        refine pw_getIv (v := gF G 6 (0) 2) r_6_addList_56 fs_6_2 (by decide) (by first | rfl | simp [gF_sF, gF_sA, gF_uA, gF_sD, gA_sF, gA_sA, gA_uA, gA_sD, gD_sF, gD_sA, gD_uA, gD_sD]) ?_
        refine pw_const r_6_addList_59 ?_
        refine pw_iadd r_6_addList_60 (by omega) ?_
        refine pw_putI r_6_addList_61 (by decide +kernel) fs_6_2 (by decide) ?_
        refine pw_aload r_6_addList_64 rfl ?_
        refine pw_getIv (v := ((gF G 6 (0) 2) + 1)) r_6_addList_65 fs_6_2 (by decide) (by first | rfl | simp [gF_sF, gF_sA, gF_uA, gF_sD, gA_sF, gA_sA, gA_uA, gA_sD, gD_sF, gD_sA, gD_uA, gD_sD]) ?_
        refine pw_iret r_6_addList_68 rfl (Nat.le_refl _) ⟨rfl, ?_⟩
        first | exact h1 (by omega) | exact h2 (by omega) (by omega) | exact pe (h3 (by omega) (by omega)) (by first | rfl | omega)
      · skip
        refine pw_const r_6_addList_31 ?_
        refine pw_iret r_6_addList_33 rfl (Nat.le_refl _) ⟨rfl, ?_⟩
        first | exact h1 (by omega) | exact h2 (by omega) (by omega) | exact pe (h3 (by omega) (by omega)) (by first | rfl | omega)
    · skip
      refine pw_const r_6_addList_20 ?_
      refine pw_iret r_6_addList_21 rfl (Nat.le_refl _) ⟨rfl, ?_⟩
      first | exact h1 (by omega) | exact h2 (by omega) (by omega) | exact pe (h3 (by omega) (by omega)) (by first | rfl | omega)
set_option maxRecDepth 10000 in
theorem sp_X12_round {l : Launch} {w : Wo} {d : Nat} {G : PH} {P : Option PV → PH → Prop} {a b : Int} (hz6 : 0 ≤ (gF G 12 0 96) ∧ (gF G 12 0 96) ≤ 6) (h1 : ¬ ((0 ≤ a ∧ a ≤ 99) ∧ 0 ≤ b ∧ b ≤ 99) → P (some (vI (-1))) G) (h2 : (((0 ≤ a ∧ a ≤ 99) ∧ 0 ≤ b ∧ b ≤ 99)) → (6 ≤ (gF G 12 0 96)) → P (some (vI (-2))) G) (h3 : (((0 ≤ a ∧ a ≤ 99) ∧ 0 ≤ b ∧ b ≤ 99)) → (¬ (6 ≤ (gF G 12 0 96))) → P (some (vI ((gF G 12 0 96) + 1))) (sF (sA (sA G 264 0 ((gF G 12 0 96)) (a)) 265 0 ((gF G 12 0 96)) (b)) 12 0 96 ((gF G 12 0 96) + 1))) : PW l w M_X12_round (d + 1) 0 [some (vR 12 (0)), some (vI (a)), some (vI (b))] [] G P := by
  refine pw_iload r_12_round_0 rfl ?_
  refine pw_const r_12_round_1 ?_
  refine pw_const r_12_round_2 ?_
  refine pw_callS (av := [vI (a), vI (0), vI (99)]) (st := []) (ls0 := [some (vI (a)), some (vI (0)), some (vI (99))]) r_12_round_4 rfl rfl rfl (Nat.le_refl _) ?_
  refine sp_X12_within  ?_
  refine pw_if_eqB r_12_round_7 (fun h07 => ?_) (fun h07 => ?_)
  · skip
    refine pw_const r_12_round_20 ?_
    refine pw_iret r_12_round_21 rfl (Nat.le_refl _) ⟨rfl, ?_⟩
    first | exact h1 (by omega) | exact h2 (by omega) (by omega) | exact pe (h3 (by omega) (by omega)) (by first | rfl | omega)
  · skip
    refine pw_iload r_12_round_10 rfl ?_
    refine pw_const r_12_round_11 ?_
    refine pw_const r_12_round_12 ?_
    refine pw_callS (av := [vI (b), vI (0), vI (99)]) (st := []) (ls0 := [some (vI (b)), some (vI (0)), some (vI (99))]) r_12_round_14 rfl rfl rfl (Nat.le_refl _) ?_
    refine sp_X12_within  ?_
    refine pw_if_neB r_12_round_17 (fun h17 => ?_) (fun h17 => ?_)
    · skip
      refine pw_aload r_12_round_22 rfl ?_
      refine pw_getI r_12_round_23 fs_12_96 (by decide) ?_
      refine pw_const r_12_round_26 ?_
      refine pw_icmp_ne r_12_round_28 (fun h28 => ?_) (fun h28 => ?_)
      · skip
        refine pw_aload r_12_round_34 rfl ?_
        refine pw_getR r_12_round_35 fs_12_94 (by decide) ?_
        refine pw_aload r_12_round_38 rfl ?_
        refine pw_getI r_12_round_39 fs_12_96 (by decide) ?_
        refine pw_iload r_12_round_42 rfl ?_
        refine pw_iast r_12_round_43 sh264 (by omega) (by omega) ?_
        refine pw_aload r_12_round_44 rfl ?_
        refine pw_getR r_12_round_45 fs_12_95 (by decide) ?_
        refine pw_aload r_12_round_48 rfl ?_
        refine pw_getIv (v := gF G 12 (0) 96) r_12_round_49 fs_12_96 (by decide) (by first | rfl | simp [gF_sF, gF_sA, gF_uA, gF_sD, gA_sF, gA_sA, gA_uA, gA_sD, gD_sF, gD_sA, gD_uA, gD_sD]) ?_
        refine pw_iload r_12_round_52 rfl ?_
        refine pw_iast r_12_round_53 sh265 (by omega) (by omega) ?_
        refine pw_aload r_12_round_54 rfl ?_
        refine pw_dup r_12_round_55 rfl ?_
        refine pw_getIv (v := gF G 12 (0) 96) r_12_round_56 fs_12_96 (by decide) (by first | rfl | simp [gF_sF, gF_sA, gF_uA, gF_sD, gA_sF, gA_sA, gA_uA, gA_sD, gD_sF, gD_sA, gD_uA, gD_sD]) ?_
        refine pw_const r_12_round_59 ?_
        refine pw_iadd r_12_round_60 (by omega) ?_
        refine pw_putI r_12_round_61 (by decide +kernel) fs_12_96 (by decide) ?_
        refine pw_aload r_12_round_64 rfl ?_
        refine pw_getIv (v := ((gF G 12 (0) 96) + 1)) r_12_round_65 fs_12_96 (by decide) (by first | rfl | simp [gF_sF, gF_sA, gF_uA, gF_sD, gA_sF, gA_sA, gA_uA, gA_sD, gD_sF, gD_sA, gD_uA, gD_sD]) ?_
        refine pw_iret r_12_round_68 rfl (Nat.le_refl _) ⟨rfl, ?_⟩
        first | exact h1 (by omega) | exact h2 (by omega) (by omega) | exact pe (h3 (by omega) (by omega)) (by first | rfl | omega)
      · skip
        refine pw_const r_12_round_31 ?_
        refine pw_iret r_12_round_33 rfl (Nat.le_refl _) ⟨rfl, ?_⟩
        first | exact h1 (by omega) | exact h2 (by omega) (by omega) | exact pe (h3 (by omega) (by omega)) (by first | rfl | omega)
    · skip
      refine pw_const r_12_round_20 ?_
      refine pw_iret r_12_round_21 rfl (Nat.le_refl _) ⟨rfl, ?_⟩
      first | exact h1 (by omega) | exact h2 (by omega) (by omega) | exact pe (h3 (by omega) (by omega)) (by first | rfl | omega)
set_option maxRecDepth 10000 in
theorem sp_X6_addAim {l : Launch} {w : Wo} {d : Nat} {G : PH} {P : Option PV → PH → Prop} {v : Int} (hz4 : 0 ≤ (gF G 6 0 4) ∧ (gF G 6 0 4) ≤ 4) (h1 : ¬ (1 ≤ v ∧ v ≤ 999) → P (some (vI (-1))) G) (h2 : ((1 ≤ v ∧ v ≤ 999)) → (4 ≤ (gF G 6 0 4)) → P (some (vI (-2))) G) (h3 : ((1 ≤ v ∧ v ≤ 999)) → (¬ (4 ≤ (gF G 6 0 4))) → P (some (vI ((gF G 6 0 4) + 1))) (sF (sA G 62 0 ((gF G 6 0 4)) (v)) 6 0 4 ((gF G 6 0 4) + 1))) : PW l w M_X6_addAim (d + 1) 0 [some (vR 6 (0)), some (vI (v))] [] G P := by
  refine pw_iload r_6_addAim_0 rfl ?_
  refine pw_const r_6_addAim_1 ?_
  refine pw_const r_6_addAim_2 ?_
  refine pw_callS (av := [vI (v), vI (1), vI (999)]) (st := []) (ls0 := [some (vI (v)), some (vI (1)), some (vI (999))]) r_6_addAim_5 rfl rfl rfl (Nat.le_refl _) ?_
  refine sp_X11_within  ?_
  refine pw_if_neB r_6_addAim_8 (fun h08 => ?_) (fun h08 => ?_)
  · skip
    refine pw_aload r_6_addAim_13 rfl ?_
    refine pw_getI r_6_addAim_14 fs_6_4 (by decide) ?_
    refine pw_const r_6_addAim_17 ?_
    refine pw_icmp_lt r_6_addAim_18 (fun h18 => ?_) (fun h18 => ?_)
    · skip
      refine pw_aload r_6_addAim_24 rfl ?_
      refine pw_getR r_6_addAim_25 fs_6_3 (by decide) ?_
      refine pw_aload r_6_addAim_28 rfl ?_
      refine pw_getI r_6_addAim_29 fs_6_4 (by decide) ?_
      refine pw_iload r_6_addAim_32 rfl ?_
      refine pw_iast r_6_addAim_33 sh62 (by omega) (by omega) ?_
      refine pw_aload r_6_addAim_34 rfl ?_
      refine pw_dup r_6_addAim_35 rfl ?_
      refine pw_getIv (v := gF G 6 (0) 4) r_6_addAim_36 fs_6_4 (by decide) (by first | rfl | simp [gF_sF, gF_sA, gF_uA, gF_sD, gA_sF, gA_sA, gA_uA, gA_sD, gD_sF, gD_sA, gD_uA, gD_sD]) ?_
      refine pw_const r_6_addAim_39 ?_
      refine pw_iadd r_6_addAim_40 (by omega) ?_
      refine pw_putI r_6_addAim_41 (by decide +kernel) fs_6_4 (by decide) ?_
      refine pw_aload r_6_addAim_44 rfl ?_
      refine pw_getIv (v := ((gF G 6 (0) 4) + 1)) r_6_addAim_45 fs_6_4 (by decide) (by first | rfl | simp [gF_sF, gF_sA, gF_uA, gF_sD, gA_sF, gA_sA, gA_uA, gA_sD, gD_sF, gD_sA, gD_uA, gD_sD]) ?_
      refine pw_iret r_6_addAim_48 rfl (Nat.le_refl _) ⟨rfl, ?_⟩
      first | exact h1 (by omega) | exact h2 (by omega) (by omega) | exact pe (h3 (by omega) (by omega)) (by first | rfl | omega)
    · skip
      refine pw_const r_6_addAim_21 ?_
      refine pw_iret r_6_addAim_23 rfl (Nat.le_refl _) ⟨rfl, ?_⟩
      first | exact h1 (by omega) | exact h2 (by omega) (by omega) | exact pe (h3 (by omega) (by omega)) (by first | rfl | omega)
  · skip
    refine pw_const r_6_addAim_11 ?_
    refine pw_iret r_6_addAim_12 rfl (Nat.le_refl _) ⟨rfl, ?_⟩
    first | exact h1 (by omega) | exact h2 (by omega) (by omega) | exact pe (h3 (by omega) (by omega)) (by first | rfl | omega)
set_option maxRecDepth 10000 in
theorem sp_X12_aim {l : Launch} {w : Wo} {d : Nat} {G : PH} {P : Option PV → PH → Prop} {v : Int} (hz4 : 0 ≤ (gF G 12 0 98) ∧ (gF G 12 0 98) ≤ 4) (h1 : ¬ (1 ≤ v ∧ v ≤ 999) → P (some (vI (-1))) G) (h2 : ((1 ≤ v ∧ v ≤ 999)) → (4 ≤ (gF G 12 0 98)) → P (some (vI (-2))) G) (h3 : ((1 ≤ v ∧ v ≤ 999)) → (¬ (4 ≤ (gF G 12 0 98))) → P (some (vI ((gF G 12 0 98) + 1))) (sF (sA G 266 0 ((gF G 12 0 98)) (v)) 12 0 98 ((gF G 12 0 98) + 1))) : PW l w M_X12_aim (d + 1) 0 [some (vR 12 (0)), some (vI (v))] [] G P := by
  refine pw_iload r_12_aim_0 rfl ?_
  refine pw_const r_12_aim_1 ?_
  refine pw_const r_12_aim_2 ?_
  refine pw_callS (av := [vI (v), vI (1), vI (999)]) (st := []) (ls0 := [some (vI (v)), some (vI (1)), some (vI (999))]) r_12_aim_5 rfl rfl rfl (Nat.le_refl _) ?_
  refine sp_X12_within  ?_
  refine pw_if_neB r_12_aim_8 (fun h08 => ?_) (fun h08 => ?_)
  · skip
    refine pw_aload r_12_aim_13 rfl ?_
    refine pw_getI r_12_aim_14 fs_12_98 (by decide) ?_
    refine pw_const r_12_aim_17 ?_
    refine pw_icmp_ne r_12_aim_18 (fun h18 => ?_) (fun h18 => ?_)
    · skip
      refine pw_aload r_12_aim_24 rfl ?_
      refine pw_getR r_12_aim_25 fs_12_97 (by decide) ?_
      refine pw_aload r_12_aim_28 rfl ?_
      refine pw_getI r_12_aim_29 fs_12_98 (by decide) ?_
      refine pw_iload r_12_aim_32 rfl ?_
      refine pw_iast r_12_aim_33 sh266 (by omega) (by omega) ?_
      refine pw_aload r_12_aim_34 rfl ?_
      refine pw_dup r_12_aim_35 rfl ?_
      refine pw_getIv (v := gF G 12 (0) 98) r_12_aim_36 fs_12_98 (by decide) (by first | rfl | simp [gF_sF, gF_sA, gF_uA, gF_sD, gA_sF, gA_sA, gA_uA, gA_sD, gD_sF, gD_sA, gD_uA, gD_sD]) ?_
      refine pw_const r_12_aim_39 ?_
      refine pw_iadd r_12_aim_40 (by omega) ?_
      refine pw_putI r_12_aim_41 (by decide +kernel) fs_12_98 (by decide) ?_
      refine pw_aload r_12_aim_44 rfl ?_
      refine pw_getIv (v := ((gF G 12 (0) 98) + 1)) r_12_aim_45 fs_12_98 (by decide) (by first | rfl | simp [gF_sF, gF_sA, gF_uA, gF_sD, gA_sF, gA_sA, gA_uA, gA_sD, gD_sF, gD_sA, gD_uA, gD_sD]) ?_
      refine pw_iret r_12_aim_48 rfl (Nat.le_refl _) ⟨rfl, ?_⟩
      first | exact h1 (by omega) | exact h2 (by omega) (by omega) | exact pe (h3 (by omega) (by omega)) (by first | rfl | omega)
    · skip
      refine pw_const r_12_aim_21 ?_
      refine pw_iret r_12_aim_23 rfl (Nat.le_refl _) ⟨rfl, ?_⟩
      first | exact h1 (by omega) | exact h2 (by omega) (by omega) | exact pe (h3 (by omega) (by omega)) (by first | rfl | omega)
  · skip
    refine pw_const r_12_aim_11 ?_
    refine pw_iret r_12_aim_12 rfl (Nat.le_refl _) ⟨rfl, ?_⟩
    first | exact h1 (by omega) | exact h2 (by omega) (by omega) | exact pe (h3 (by omega) (by omega)) (by first | rfl | omega)
set_option maxRecDepth 10000 in
theorem sp_X6_tellOrder {l : Launch} {w : Wo} {d : Nat} {G : PH} {P : Option PV → PH → Prop} {i : Int} (ho : (gF G 6 0 8) ≤ 6) (h1 : ¬ (0 ≤ i ∧ i < (gF G 6 0 8)) → P (some (vI (-1))) G) (h2 : (0 ≤ i ∧ i < (gF G 6 0 8)) → P (some (vI (gA G 64 0 (i)))) G) : PW l w M_X6_tellOrder (d + 0) 0 [some (vR 6 (0)), some (vI (i))] [] G P := by
  refine pw_iload r_6_tellOrder_0 rfl ?_
  refine pw_if_lt r_6_tellOrder_1 (fun h01 => ?_) (fun h01 => ?_)
  · skip
    refine pw_const r_6_tellOrder_21 ?_
    refine pw_iret r_6_tellOrder_22 rfl (Nat.le_refl _) ⟨rfl, ?_⟩
    first | exact h1 (by omega) | exact h2 (by omega)
  · skip
    refine pw_iload r_6_tellOrder_4 rfl ?_
    refine pw_aload r_6_tellOrder_5 rfl ?_
    refine pw_getI r_6_tellOrder_6 fs_6_8 (by decide) ?_
    refine pw_icmp_ge r_6_tellOrder_9 (fun h09 => ?_) (fun h09 => ?_)
    · skip
      refine pw_const r_6_tellOrder_21 ?_
      refine pw_iret r_6_tellOrder_22 rfl (Nat.le_refl _) ⟨rfl, ?_⟩
      first | exact h1 (by omega) | exact h2 (by omega)
    · skip
      refine pw_aload r_6_tellOrder_12 rfl ?_
      refine pw_getR r_6_tellOrder_13 fs_6_7 (by decide) ?_
      refine pw_iload r_6_tellOrder_16 rfl ?_
      refine pw_iald r_6_tellOrder_17 sh64 (by omega) (by omega) ?_
      refine pw_goto r_6_tellOrder_18 ?_
      refine pw_iret r_6_tellOrder_22 rfl (Nat.le_refl _) ⟨rfl, ?_⟩
      first | exact h1 (by omega) | exact h2 (by omega)
set_option maxRecDepth 10000 in
theorem sp_X12_ordered {l : Launch} {w : Wo} {d : Nat} {G : PH} {P : Option PV → PH → Prop} {i : Int} (ho : (gF G 12 0 101) ≤ 6) (h1 : ¬ (0 ≤ i ∧ i < (gF G 12 0 101)) → P (some (vI (-1))) G) (h2 : (0 ≤ i ∧ i < (gF G 12 0 101)) → P (some (vI (gA G 268 0 (i)))) G) : PW l w M_X12_ordered (d + 0) 0 [some (vR 12 (0)), some (vI (i))] [] G P := by
  refine pw_iload r_12_ordered_0 rfl ?_
  refine pw_if_lt r_12_ordered_1 (fun h01 => ?_) (fun h01 => ?_)
  · skip
    refine pw_const r_12_ordered_21 ?_
    refine pw_iret r_12_ordered_22 rfl (Nat.le_refl _) ⟨rfl, ?_⟩
    first | exact h1 (by omega) | exact h2 (by omega)
  · skip
    refine pw_iload r_12_ordered_4 rfl ?_
    refine pw_aload r_12_ordered_5 rfl ?_
    refine pw_getI r_12_ordered_6 fs_12_101 (by decide) ?_
    refine pw_icmp_ge r_12_ordered_9 (fun h09 => ?_) (fun h09 => ?_)
    · skip
      refine pw_const r_12_ordered_21 ?_
      refine pw_iret r_12_ordered_22 rfl (Nat.le_refl _) ⟨rfl, ?_⟩
      first | exact h1 (by omega) | exact h2 (by omega)
    · skip
      refine pw_aload r_12_ordered_12 rfl ?_
      refine pw_getR r_12_ordered_13 fs_12_100 (by decide) ?_
      refine pw_iload r_12_ordered_16 rfl ?_
      refine pw_iald r_12_ordered_17 sh268 (by omega) (by omega) ?_
      refine pw_goto r_12_ordered_18 ?_
      refine pw_iret r_12_ordered_22 rfl (Nat.le_refl _) ⟨rfl, ?_⟩
      first | exact h1 (by omega) | exact h2 (by omega)
set_option maxRecDepth 10000 in
theorem sp_X1_tellTrace {l : Launch} {w : Wo} {d : Nat} {G : PH} {P : Option PV → PH → Prop} {i : Int} (hk : (gF G 1 0 17) ≤ 24) (h1 : ¬ (0 ≤ i ∧ i < (gF G 1 0 17)) → P (some (vI (-1))) G) (h2 : (0 ≤ i ∧ i < (gF G 1 0 17)) → P (some (vI (gA G 40 0 (i)))) G) : PW l w M_X1_tellTrace (d + 0) 0 [some (vR 1 (0)), some (vI (i))] [] G P := by
  refine pw_iload r_1_tellTrace_0 rfl ?_
  refine pw_if_lt r_1_tellTrace_1 (fun h01 => ?_) (fun h01 => ?_)
  · skip
    refine pw_const r_1_tellTrace_21 ?_
    refine pw_iret r_1_tellTrace_22 rfl (Nat.le_refl _) ⟨rfl, ?_⟩
    first | exact h1 (by omega) | exact h2 (by omega)
  · skip
    refine pw_iload r_1_tellTrace_4 rfl ?_
    refine pw_aload r_1_tellTrace_5 rfl ?_
    refine pw_getI r_1_tellTrace_6 fs_1_17 (by decide) ?_
    refine pw_icmp_ge r_1_tellTrace_9 (fun h09 => ?_) (fun h09 => ?_)
    · skip
      refine pw_const r_1_tellTrace_21 ?_
      refine pw_iret r_1_tellTrace_22 rfl (Nat.le_refl _) ⟨rfl, ?_⟩
      first | exact h1 (by omega) | exact h2 (by omega)
    · skip
      refine pw_aload r_1_tellTrace_12 rfl ?_
      refine pw_getR r_1_tellTrace_13 fs_1_16 (by decide) ?_
      refine pw_iload r_1_tellTrace_16 rfl ?_
      refine pw_iald r_1_tellTrace_17 sh40 (by omega) (by omega) ?_
      refine pw_goto r_1_tellTrace_18 ?_
      refine pw_iret r_1_tellTrace_22 rfl (Nat.le_refl _) ⟨rfl, ?_⟩
      first | exact h1 (by omega) | exact h2 (by omega)
set_option maxRecDepth 10000 in
theorem sp_X12_trace {l : Launch} {w : Wo} {d : Nat} {G : PH} {P : Option PV → PH → Prop} {i : Int} (h1 : ¬ (0 ≤ i ∧ i < (gF G 12 0 104) ∧ i < 24) → P (some (vI (-1))) G) (h2 : (0 ≤ i ∧ i < (gF G 12 0 104) ∧ i < 24) → P (some (vI (gA G 269 0 (i)))) G) : PW l w M_X12_trace (d + 0) 0 [some (vR 12 (0)), some (vI (i))] [] G P := by
  refine pw_iload r_12_trace_0 rfl ?_
  refine pw_if_lt r_12_trace_1 (fun h01 => ?_) (fun h01 => ?_)
  · skip
    refine pw_const r_12_trace_27 ?_
    refine pw_iret r_12_trace_28 rfl (Nat.le_refl _) ⟨rfl, ?_⟩
    first | exact h1 (by omega) | exact h2 (by omega)
  · skip
    refine pw_iload r_12_trace_4 rfl ?_
    refine pw_aload r_12_trace_5 rfl ?_
    refine pw_getI r_12_trace_6 fs_12_104 (by decide) ?_
    refine pw_icmp_ge r_12_trace_9 (fun h09 => ?_) (fun h09 => ?_)
    · skip
      refine pw_const r_12_trace_27 ?_
      refine pw_iret r_12_trace_28 rfl (Nat.le_refl _) ⟨rfl, ?_⟩
      first | exact h1 (by omega) | exact h2 (by omega)
    · skip
      refine pw_iload r_12_trace_12 rfl ?_
      refine pw_const r_12_trace_13 ?_
      refine pw_icmp_ge r_12_trace_15 (fun h15 => ?_) (fun h15 => ?_)
      · skip
        refine pw_const r_12_trace_27 ?_
        refine pw_iret r_12_trace_28 rfl (Nat.le_refl _) ⟨rfl, ?_⟩
        first | exact h1 (by omega) | exact h2 (by omega)
      · skip
        refine pw_aload r_12_trace_18 rfl ?_
        refine pw_getR r_12_trace_19 fs_12_103 (by decide) ?_
        refine pw_iload r_12_trace_22 rfl ?_
        refine pw_iald r_12_trace_23 sh269 (by omega) (by omega) ?_
        refine pw_goto r_12_trace_24 ?_
        refine pw_iret r_12_trace_28 rfl (Nat.le_refl _) ⟨rfl, ?_⟩
        first | exact h1 (by omega) | exact h2 (by omega)
set_option maxRecDepth 10000 in
theorem sp_X11_offer {l : Launch} {w : Wo} {d : Nat} {G : PH} {P : Option PV → PH → Prop} {p : Int} (hp : ∀ i, 0 ≤ i → i < (gF G 1 0 1) → gD G 30 0 i = some (3, i)) (hsz : 0 ≤ (gF G 1 0 1) ∧ (gF G 1 0 1) ≤ 150) (hsd : (0 ≤ p ∧ p < (gF G 1 0 1)) → 0 ≤ (gF G 3 (p) 2) ∧ (gF G 3 (p) 2) ≤ 1) (hof : ∀ s, 0 ≤ s → s < 2 → 0 ≤ (gA G 94 0 (s)) ∧ (gA G 94 0 (s)) ≤ 7) (h1 : ¬ ((0 ≤ p ∧ p < (gF G 1 0 1)) ∧ (∀ i, 0 ≤ i → i < (gA G 94 0 ((gF G 3 (p) 2))) → (gA G 93 ((gF G 3 (p) 2)) (i)) ≠ p)) → P (some (vI (-1))) G) (h2 : (((0 ≤ p ∧ p < (gF G 1 0 1)) ∧ (∀ i, 0 ≤ i → i < (gA G 94 0 ((gF G 3 (p) 2))) → (gA G 93 ((gF G 3 (p) 2)) (i)) ≠ p))) → ((gF G 3 (p) 8) ≠ 0) → P (some (vI (-3))) G) (h3 : (((0 ≤ p ∧ p < (gF G 1 0 1)) ∧ (∀ i, 0 ≤ i → i < (gA G 94 0 ((gF G 3 (p) 2))) → (gA G 93 ((gF G 3 (p) 2)) (i)) ≠ p))) → ((gF G 3 (p) 8) = 0) → (7 ≤ (gA G 94 0 ((gF G 3 (p) 2)))) → P (some (vI (-2))) G) (h4 : (((0 ≤ p ∧ p < (gF G 1 0 1)) ∧ (∀ i, 0 ≤ i → i < (gA G 94 0 ((gF G 3 (p) 2))) → (gA G 93 ((gF G 3 (p) 2)) (i)) ≠ p))) → ((gF G 3 (p) 8) = 0) → ((gA G 94 0 ((gF G 3 (p) 2))) < 7) → P (some (vI ((gA G 94 0 ((gF G 3 (p) 2))) + 1))) (sA (sA G 93 ((gF G 3 (p) 2)) ((gA G 94 0 ((gF G 3 (p) 2)))) (p)) 94 0 ((gF G 3 (p) 2)) ((gA G 94 0 ((gF G 3 (p) 2))) + 1))) : PW l w M_X11_offer (d + 2) 0 [some (vR 11 (0)), some (vI (p))] [] G P := by
  refine pw_aload r_11_offer_0 rfl ?_
  refine pw_getR r_11_offer_1 fs_11_5 (by decide) ?_
  refine pw_iload r_11_offer_4 rfl ?_
  refine pw_callV (av := [vI (p)]) (st := []) (ls0 := [some (vR 10 (0)), some (vI (p)), none]) r_11_offer_5 rfl rfl rfl (Nat.le_refl _) ?_
  refine sp_X10_addOffer (by first | assumption | exact hp | omega) (by first | assumption | exact hsz | omega) (by first | assumption | exact hsd | omega) (by first | assumption | exact hof | omega) ?_ ?_ ?_ ?_
  · skip
    intro q1
    refine pw_iret r_11_offer_8 rfl (Nat.le_refl _) ⟨rfl, ?_⟩
    exact h1 q1
  · skip
    intro q1 q2
    refine pw_iret r_11_offer_8 rfl (Nat.le_refl _) ⟨rfl, ?_⟩
    exact h2 q1 q2
  · skip
    intro q1 q2 q3
    refine pw_iret r_11_offer_8 rfl (Nat.le_refl _) ⟨rfl, ?_⟩
    exact h3 q1 q2 q3
  · skip
    intro q1 q2 q3
    refine pw_eqG (G' := sA (sA G 93 ((gF G 3 (p) 2)) ((gA G 94 (0) ((gF G 3 (p) 2)))) (p)) 94 (0) ((gF G 3 (p) 2)) ((gA G 94 (0) ((gF G 3 (p) 2))) + 1)) (by first | rfl | simp (disch := decide) [gF_sF, gF_sA, gF_uA, gF_sD, gA_sF, gA_sA, gA_uA, gA_sD, gD_sF, gD_sA, gD_uA, gD_sD]) ?_
    refine pw_iret r_11_offer_8 rfl (Nat.le_refl _) ⟨rfl, ?_⟩
    exact h4 q1 q2 q3
set_option maxRecDepth 10000 in
theorem sp_X11_ratio {l : Launch} {w : Wo} {d : Nat} {G : PH} {P : Option PV → PH → Prop} {v : Int} (h1 : ¬ (1 ≤ v ∧ v ≤ 99) → P (some (vI (-1))) G) (h2 : (1 ≤ v ∧ v ≤ 99) → P (some (vI (gF G 10 0 5))) (sF G 10 0 5 (v))) : PW l w M_X11_ratio (d + 2) 0 [some (vR 11 (0)), some (vI (v))] [] G P := by
  refine pw_aload r_11_ratio_0 rfl ?_
  refine pw_getR r_11_ratio_1 fs_11_5 (by decide) ?_
  refine pw_iload r_11_ratio_4 rfl ?_
  refine pw_callV (av := [vI (v)]) (st := []) (ls0 := [some (vR 10 (0)), some (vI (v)), none]) r_11_ratio_5 rfl rfl rfl (Nat.le_refl _) ?_
  refine sp_X10_setRatio  ?_ ?_
  · skip
    intro q1
    refine pw_iret r_11_ratio_8 rfl (Nat.le_refl _) ⟨rfl, ?_⟩
    exact h1 q1
  · skip
    intro q1
    refine pw_iret r_11_ratio_8 rfl (Nat.le_refl _) ⟨rfl, ?_⟩
    exact h2 q1
set_option maxRecDepth 10000 in
theorem sp_X11_bestOf {l : Launch} {w : Wo} {d : Nat} {G : PH} {P : Option PV → PH → Prop} {s : Int} (h1 : ¬ (0 ≤ s ∧ s ≤ 1) → P (some (vI (-1))) G) (h2 : (0 ≤ s ∧ s ≤ 1) → P (some (vI (gA G 95 0 (s)))) G) : PW l w M_X11_bestOf (d + 2) 0 [some (vR 11 (0)), some (vI (s))] [] G P := by
  refine pw_aload r_11_bestOf_0 rfl ?_
  refine pw_getR r_11_bestOf_1 fs_11_5 (by decide) ?_
  refine pw_iload r_11_bestOf_4 rfl ?_
  refine pw_callV (av := [vI (s)]) (st := []) (ls0 := [some (vR 10 (0)), some (vI (s))]) r_11_bestOf_5 rfl rfl rfl (Nat.le_refl _) ?_
  refine sp_X10_tellBest  ?_ ?_
  · skip
    intro q1
    refine pw_iret r_11_bestOf_8 rfl (Nat.le_refl _) ⟨rfl, ?_⟩
    exact h1 q1
  · skip
    intro q1
    refine pw_iret r_11_bestOf_8 rfl (Nat.le_refl _) ⟨rfl, ?_⟩
    exact h2 q1
set_option maxRecDepth 10000 in
theorem sp_X11_load {l : Launch} {w : Wo} {d : Nat} {G : PH} {P : Option PV → PH → Prop} {c s f : Int} (hc : 0 ≤ (gF G 2 0 2) ∧ (gF G 2 0 2) ≤ 16) (hr : ∀ k, 0 ≤ k → k < 324 → 0 ≤ (gA G 43 0 (k)) ∧ (gA G 43 0 (k)) ≤ 9) (hto : 0 ≤ (gF G 7 0 2) ∧ (gF G 7 0 2) ≤ 6) (h1 : ¬ (((0 ≤ c ∧ c < (gF G 2 0 2)) ∧ (0 ≤ s ∧ s ≤ 99) ∧ (0 ≤ f ∧ f ≤ 99) ∧ s + f ≠ 0) ∧ (∀ i, 0 ≤ i → i < (gF G 7 0 2) → (gA G 65 0 (i)) ≠ c)) → P (some (vI (-1))) G) (h2 : ((0 ≤ c ∧ c < (gF G 2 0 2)) ∧ (0 ≤ s ∧ s ≤ 99) ∧ (0 ≤ f ∧ f ≤ 99) ∧ s + f ≠ 0) → (∀ i, 0 ≤ i → i < (gF G 7 0 2) → (gA G 65 0 (i)) ≠ c) → ∀ Dr fr, IsD (fun u v => (gA G 43 0 (u * 18 + v))) (fun u => ¬ (0 ≤ u ∧ u < (gF G 2 0 2)) ∨ (gA G 41 0 (u)) = (gA G 41 0 (c))) c 1000000000 Dr → (∀ v, 0 ≤ v → v < 18 → Dr v < 1000000000 → Dr v ≤ 162) → 1000000000 ≤ Dr 16 → P (some (vI (-4))) (uA (uA G 44 0 Dr) 45 0 fr)) (h3 : ((0 ≤ c ∧ c < (gF G 2 0 2)) ∧ (0 ≤ s ∧ s ≤ 99) ∧ (0 ≤ f ∧ f ≤ 99) ∧ s + f ≠ 0) → (∀ i, 0 ≤ i → i < (gF G 7 0 2) → (gA G 65 0 (i)) ≠ c) → ∀ Dr fr, IsD (fun u v => (gA G 43 0 (u * 18 + v))) (fun u => ¬ (0 ≤ u ∧ u < (gF G 2 0 2)) ∨ (gA G 41 0 (u)) = (gA G 41 0 (c))) c 1000000000 Dr → (∀ v, 0 ≤ v → v < 18 → Dr v < 1000000000 → Dr v ≤ 162) → Dr 16 < 1000000000 → 6 ≤ (gF G 7 0 2) → P (some (vI (-2))) (uA (uA G 44 0 Dr) 45 0 fr)) (h4 : ((0 ≤ c ∧ c < (gF G 2 0 2)) ∧ (0 ≤ s ∧ s ≤ 99) ∧ (0 ≤ f ∧ f ≤ 99) ∧ s + f ≠ 0) → (∀ i, 0 ≤ i → i < (gF G 7 0 2) → (gA G 65 0 (i)) ≠ c) → ∀ Dr fr, IsD (fun u v => (gA G 43 0 (u * 18 + v))) (fun u => ¬ (0 ≤ u ∧ u < (gF G 2 0 2)) ∨ (gA G 41 0 (u)) = (gA G 41 0 (c))) c 1000000000 Dr → (∀ v, 0 ≤ v → v < 18 → Dr v < 1000000000 → Dr v ≤ 162) → Dr 16 < 1000000000 → (gF G 7 0 2) < 6 → P (some (vI ((gF G 7 0 2) + 1))) (sF (sA (sA (sA ((uA (uA G 44 0 Dr) 45 0 fr)) 65 0 ((gF G 7 0 2)) (c)) 66 0 ((gF G 7 0 2)) (s)) 67 0 ((gF G 7 0 2)) (f)) 7 0 2 ((gF G 7 0 2) + 1))) : PW l w M_X11_load (d + 4) 0 [some (vR 11 (0)), some (vI (c)), some (vI (s)), some (vI (f))] [] G P := by
  refine pw_aload r_11_load_0 rfl ?_
  refine pw_getR r_11_load_1 fs_11_6 (by decide) ?_
  refine pw_iload r_11_load_4 rfl ?_
  refine pw_iload r_11_load_5 rfl ?_
  refine pw_iload r_11_load_6 rfl ?_
  refine pw_callV (av := [vI (c), vI (s), vI (f)]) (st := []) (ls0 := [some (vR 7 (0)), some (vI (c)), some (vI (s)), some (vI (f)), none]) r_11_load_7 rfl rfl rfl (Nat.le_refl _) ?_
  refine sp_X7_addCamp (by first | assumption | exact hc | omega) (by first | assumption | exact hr | omega) (by first | assumption | exact hto | omega) ?_ ?_ ?_ ?_
  · skip
    intro q1
    refine pw_iret r_11_load_10 rfl (Nat.le_refl _) ⟨rfl, ?_⟩
    exact h1 q1
  · skip
    intro q1 q2 Dr fr q3 q4 q5
    refine pw_iret r_11_load_10 rfl (Nat.le_refl _) ⟨rfl, ?_⟩
    exact h2 q1 q2 Dr fr q3 q4 q5
  · skip
    intro q1 q2 Dr fr q3 q4 q5 q6
    refine pw_iret r_11_load_10 rfl (Nat.le_refl _) ⟨rfl, ?_⟩
    exact h3 q1 q2 Dr fr q3 q4 q5 q6
  · skip
    intro q1 q2 Dr fr q3 q4 q5 q6
    refine pw_eqG (G' := sF (sA (sA (sA (uA (uA G 44 (0) (Dr)) 45 (0) (fr)) 65 (0) ((gF G 7 (0) 2)) (c)) 66 (0) ((gF G 7 (0) 2)) (s)) 67 (0) ((gF G 7 (0) 2)) (f)) 7 (0) 2 ((gF G 7 (0) 2) + 1)) (by first | rfl | simp (disch := decide) [gF_sF, gF_sA, gF_uA, gF_sD, gA_sF, gA_sA, gA_uA, gA_sD, gD_sF, gD_sA, gD_uA, gD_sD]) ?_
    refine pw_iret r_11_load_10 rfl (Nat.le_refl _) ⟨rfl, ?_⟩
    exact h4 q1 q2 Dr fr q3 q4 q5 q6
set_option maxRecDepth 10000 in
theorem sp_X11_voyage {l : Launch} {w : Wo} {d : Nat} {G : PH} {P : Option PV → PH → Prop} {i k : Int} (hv : (gF G 7 0 16) ≤ 6) (h1 : ¬ ((0 ≤ i ∧ i < (gF G 7 0 16)) ∧ 0 ≤ k ∧ k ≤ 1) → P (some (vI (-1))) G) (h2 : ((0 ≤ i ∧ i < (gF G 7 0 16)) ∧ 0 ≤ k ∧ k ≤ 1) → ∀ v, (k = 0 ∧ v = (gA G 74 0 (i))) ∨ (k = 1 ∧ v = (gA G 75 0 (i))) → P (some (vI v)) G) : PW l w M_X11_voyage (d + 2) 0 [some (vR 11 (0)), some (vI (i)), some (vI (k))] [] G P := by
  refine pw_aload r_11_voyage_0 rfl ?_
  refine pw_getR r_11_voyage_1 fs_11_6 (by decide) ?_
  refine pw_iload r_11_voyage_4 rfl ?_
  refine pw_iload r_11_voyage_5 rfl ?_
  refine pw_callV (av := [vI (i), vI (k)]) (st := []) (ls0 := [some (vR 7 (0)), some (vI (i)), some (vI (k))]) r_11_voyage_6 rfl rfl rfl (Nat.le_refl _) ?_
  refine sp_X7_tellVoyage (by first | assumption | exact hv | omega) ?_ ?_
  · skip
    intro q1
    refine pw_iret r_11_voyage_9 rfl (Nat.le_refl _) ⟨rfl, ?_⟩
    exact h1 q1
  · skip
    intro q1 v q2
    refine pw_iret r_11_voyage_9 rfl (Nat.le_refl _) ⟨rfl, ?_⟩
    exact h2 q1 v q2
set_option maxRecDepth 10000 in
theorem sp_X11_walker {l : Launch} {w : Wo} {d : Nat} {G : PH} {P : Option PV → PH → Prop} {r n : Int} (hwk : ∀ r, 0 ≤ r → r < 2 → 0 ≤ (gA G 22 0 (r)) ∧ (gA G 22 0 (r)) ≤ 10) (h1 : ¬ ((0 ≤ r ∧ r ≤ 1) ∧ 1 ≤ n ∧ n ≤ 9) → P (some (vI (-1))) G) (h2 : (((0 ≤ r ∧ r ≤ 1) ∧ 1 ≤ n ∧ n ≤ 9)) → (10 ≤ (gA G 22 0 (r))) → P (some (vI (-2))) G) (h3 : (((0 ≤ r ∧ r ≤ 1) ∧ 1 ≤ n ∧ n ≤ 9)) → (¬ (10 ≤ (gA G 22 0 (r)))) → P (some (vI ((gA G 22 0 (r)) + 1))) (sA (sA G 21 (r) ((gA G 22 0 (r))) (n)) 22 0 (r) ((gA G 22 0 (r)) + 1))) : PW l w M_X11_walker (d + 2) 0 [some (vR 11 (0)), some (vI (r)), some (vI (n))] [] G P := by
  refine pw_aload r_11_walker_0 rfl ?_
  refine pw_getR r_11_walker_1 fs_11_7 (by decide) ?_
  refine pw_iload r_11_walker_4 rfl ?_
  refine pw_iload r_11_walker_5 rfl ?_
  refine pw_callV (av := [vI (r), vI (n)]) (st := []) (ls0 := [some (vR 0 (0)), some (vI (r)), some (vI (n))]) r_11_walker_6 rfl rfl rfl (Nat.le_refl _) ?_
  refine sp_X0_addWalker (by first | assumption | exact hwk | omega) ?_ ?_ ?_
  · skip
    intro q1
    refine pw_iret r_11_walker_9 rfl (Nat.le_refl _) ⟨rfl, ?_⟩
    exact h1 q1
  · skip
    intro q1 q2
    refine pw_iret r_11_walker_9 rfl (Nat.le_refl _) ⟨rfl, ?_⟩
    exact h2 q1 q2
  · skip
    intro q1 q2
    refine pw_eqG (G' := sA (sA G 21 (r) ((gA G 22 (0) (r))) (n)) 22 (0) (r) ((gA G 22 (0) (r)) + 1)) (by first | rfl | simp (disch := decide) [gF_sF, gF_sA, gF_uA, gF_sD, gA_sF, gA_sA, gA_uA, gA_sD, gD_sF, gD_sA, gD_uA, gD_sD]) ?_
    refine pw_iret r_11_walker_9 rfl (Nat.le_refl _) ⟨rfl, ?_⟩
    exact h3 q1 q2
set_option maxRecDepth 10000 in
theorem sp_X11_began {l : Launch} {w : Wo} {d : Nat} {G : PH} {P : Option PV → PH → Prop} {m : Int} (hl : (gF G 0 0 8) ≤ 180) (h1 : ¬ (0 ≤ m ∧ m < (gF G 0 0 8)) → P (some (vI (-1))) G) (h2 : (0 ≤ m ∧ m < (gF G 0 0 8)) → P (some (vI (gA G 29 0 (m)))) G) : PW l w M_X11_began (d + 1) 0 [some (vR 11 (0)), some (vI (m))] [] G P := by
  refine pw_aload r_11_began_0 rfl ?_
  refine pw_getR r_11_began_1 fs_11_7 (by decide) ?_
  refine pw_iload r_11_began_4 rfl ?_
  refine pw_callV (av := [vI (m)]) (st := []) (ls0 := [some (vR 0 (0)), some (vI (m))]) r_11_began_5 rfl rfl rfl (Nat.le_refl _) ?_
  refine sp_X0_tellBegan (by first | assumption | exact hl | omega) ?_ ?_
  · skip
    intro q1
    refine pw_iret r_11_began_8 rfl (Nat.le_refl _) ⟨rfl, ?_⟩
    exact h1 q1
  · skip
    intro q1
    refine pw_iret r_11_began_8 rfl (Nat.le_refl _) ⟨rfl, ?_⟩
    exact h2 q1
set_option maxRecDepth 10000 in
theorem sp_X11_sought {l : Launch} {w : Wo} {d : Nat} {G : PH} {P : Option PV → PH → Prop} {c a b : Int} (hc : 0 ≤ (gF G 2 0 2) ∧ (gF G 2 0 2) ≤ 16) (hso : 0 ≤ (gF G 1 0 13) ∧ (gF G 1 0 13) ≤ 5) (h1 : ¬ ((0 ≤ c ∧ c < (gF G 2 0 2)) ∧ (0 ≤ a ∧ a ≤ 600) ∧ (0 ≤ b ∧ b ≤ 600) ∧ a ≤ b) → P (some (vI (-1))) G) (h2 : (((0 ≤ c ∧ c < (gF G 2 0 2)) ∧ (0 ≤ a ∧ a ≤ 600) ∧ (0 ≤ b ∧ b ≤ 600) ∧ a ≤ b)) → (5 ≤ (gF G 1 0 13)) → P (some (vI (-2))) G) (h3 : (((0 ≤ c ∧ c < (gF G 2 0 2)) ∧ (0 ≤ a ∧ a ≤ 600) ∧ (0 ≤ b ∧ b ≤ 600) ∧ a ≤ b)) → (¬ (5 ≤ (gF G 1 0 13))) → P (some (vI ((gF G 1 0 13) + 1))) (sF (sA (sA (sA G 36 0 ((gF G 1 0 13)) (c)) 37 0 ((gF G 1 0 13)) (a)) 38 0 ((gF G 1 0 13)) (b)) 1 0 13 ((gF G 1 0 13) + 1))) : PW l w M_X11_sought (d + 3) 0 [some (vR 11 (0)), some (vI (c)), some (vI (a)), some (vI (b))] [] G P := by
  refine pw_aload r_11_sought_0 rfl ?_
  refine pw_getR r_11_sought_1 fs_11_1 (by decide) ?_
  refine pw_iload r_11_sought_4 rfl ?_
  refine pw_iload r_11_sought_5 rfl ?_
  refine pw_iload r_11_sought_6 rfl ?_
  refine pw_callV (av := [vI (c), vI (a), vI (b)]) (st := []) (ls0 := [some (vR 1 (0)), some (vI (c)), some (vI (a)), some (vI (b))]) r_11_sought_7 rfl rfl rfl (Nat.le_refl _) ?_
  refine sp_X1_addSought (by first | assumption | exact hc | omega) (by first | assumption | exact hso | omega) ?_ ?_ ?_
  · skip
    intro q1
    refine pw_iret r_11_sought_10 rfl (Nat.le_refl _) ⟨rfl, ?_⟩
    exact h1 q1
  · skip
    intro q1 q2
    refine pw_iret r_11_sought_10 rfl (Nat.le_refl _) ⟨rfl, ?_⟩
    exact h2 q1 q2
  · skip
    intro q1 q2
    refine pw_eqG (G' := sF (sA (sA (sA G 36 (0) ((gF G 1 (0) 13)) (c)) 37 (0) ((gF G 1 (0) 13)) (a)) 38 (0) ((gF G 1 (0) 13)) (b)) 1 (0) 13 ((gF G 1 (0) 13) + 1)) (by first | rfl | simp (disch := decide) [gF_sF, gF_sA, gF_uA, gF_sD, gA_sF, gA_sA, gA_uA, gA_sD, gD_sF, gD_sA, gD_uA, gD_sD]) ?_
    refine pw_iret r_11_sought_10 rfl (Nat.le_refl _) ⟨rfl, ?_⟩
    exact h3 q1 q2
set_option maxRecDepth 10000 in
theorem sp_X11_find {l : Launch} {w : Wo} {d : Nat} {G : PH} {P : Option PV → PH → Prop} {z : Int} (hp : ∀ i, 0 ≤ i → i < (gF G 1 0 1) → gD G 30 0 i = some (3, i)) (hsz : 0 ≤ (gF G 1 0 1) ∧ (gF G 1 0 1) ≤ 150) (hst : 0 ≤ (gF G 1 0 3) ∧ (gF G 1 0 3) ≤ 400) (hso : 0 ≤ (gF G 1 0 13) ∧ (gF G 1 0 13) ≤ 5) (h1 : ¬ (0 ≤ z ∧ z ≤ 1) → P (some (vI (-1))) G) (h2 : (0 ≤ z ∧ z ≤ 1) → ((gF G 1 0 13) = 0) → P (some (vI (-3))) G) (h3 : (0 ≤ z ∧ z ≤ 1) → ((gF G 1 0 13) ≠ 0) → ∀ F n, SelOk (fun i => (((gF G 3 (i) 2) = z ∧ (gF G 3 (i) 8) ≤ 4) ∧ (∀ x, 0 ≤ x → x < (gF G 1 0 3) → ∀ y, 0 ≤ y → y < (gF G 1 0 13) → ((gA G 32 0 (x)) = i → ((gA G 34 0 (x)) ≤ (gA G 38 0 (y)) ∧ (gA G 37 0 (y)) ≤ (gA G 38 0 (y)) ∧ (((gA G 35 0 (x)) = -1 ∧ (gA G 34 0 (x)) ≤ (gF G 1 0 2) ∧ (gA G 37 0 (y)) ≤ (gF G 1 0 2)) ∨ ((gA G 35 0 (x)) ≠ -1 ∧ (gA G 34 0 (x)) ≤ (gA G 35 0 (x)) ∧ (gA G 37 0 (y)) ≤ (gA G 35 0 (x))))) → (gA G 33 0 (x)) = (gA G 36 0 (y)))))) (gF G 1 0 1) F n → P (some (vI n)) (sF (uA G 39 0 (F)) 1 0 15 (n))) : PW l w M_X11_find (d + 3) 0 [some (vR 11 (0)), some (vI (z))] [] G P := by
  refine pw_aload r_11_find_0 rfl ?_
  refine pw_getR r_11_find_1 fs_11_1 (by decide) ?_
  refine pw_iload r_11_find_4 rfl ?_
  refine pw_callV (av := [vI (z)]) (st := []) (ls0 := [some (vR 1 (0)), some (vI (z)), none, none]) r_11_find_5 rfl rfl rfl (Nat.le_refl _) ?_
  refine sp_X1_seek (by first | assumption | exact hp | omega) (by first | assumption | exact hsz | omega) (by first | assumption | exact hst | omega) (by first | assumption | exact hso | omega) ?_ ?_ ?_
  · skip
    intro q1
    refine pw_iret r_11_find_8 rfl (Nat.le_refl _) ⟨rfl, ?_⟩
    exact h1 q1
  · skip
    intro q1 q2
    refine pw_iret r_11_find_8 rfl (Nat.le_refl _) ⟨rfl, ?_⟩
    exact h2 q1 q2
  · skip
    intro q1 q2 F n q3
    refine pw_iret r_11_find_8 rfl (Nat.le_refl _) ⟨rfl, ?_⟩
    exact h3 q1 q2 F n q3
set_option maxRecDepth 10000 in
theorem sp_X11_found {l : Launch} {w : Wo} {d : Nat} {G : PH} {P : Option PV → PH → Prop} {i : Int} (hf : (gF G 1 0 15) ≤ 150) (h1 : i = -1 → P (some (vI 1)) (sF G 1 0 13 (0))) (h2 : i ≠ -1 → (0 ≤ i ∧ i < (gF G 1 0 15)) → P (some (vI (gA G 39 0 (i)))) G) (h3 : i ≠ -1 → ¬ (0 ≤ i ∧ i < (gF G 1 0 15)) → P (some (vI (-1))) G) : PW l w M_X11_found (d + 1) 0 [some (vR 11 (0)), some (vI (i))] [] G P := by
  refine pw_aload r_11_found_0 rfl ?_
  refine pw_getR r_11_found_1 fs_11_1 (by decide) ?_
  refine pw_iload r_11_found_4 rfl ?_
  refine pw_callV (av := [vI (i)]) (st := []) (ls0 := [some (vR 1 (0)), some (vI (i))]) r_11_found_5 rfl rfl rfl (Nat.le_refl _) ?_
  refine sp_X1_tellFound (by first | assumption | exact hf | omega) ?_ ?_ ?_
  · skip
    intro q1
    refine pw_iret r_11_found_8 rfl (Nat.le_refl _) ⟨rfl, ?_⟩
    exact h1 q1
  · skip
    intro q1 q2
    refine pw_iret r_11_found_8 rfl (Nat.le_refl _) ⟨rfl, ?_⟩
    exact h2 q1 q2
  · skip
    intro q1 q2
    refine pw_iret r_11_found_8 rfl (Nat.le_refl _) ⟨rfl, ?_⟩
    exact h3 q1 q2
set_option maxRecDepth 10000 in
theorem sp_X11_round {l : Launch} {w : Wo} {d : Nat} {G : PH} {P : Option PV → PH → Prop} {a b : Int} (hz6 : 0 ≤ (gF G 6 0 2) ∧ (gF G 6 0 2) ≤ 6) (h1 : ¬ ((0 ≤ a ∧ a ≤ 99) ∧ 0 ≤ b ∧ b ≤ 99) → P (some (vI (-1))) G) (h2 : (((0 ≤ a ∧ a ≤ 99) ∧ 0 ≤ b ∧ b ≤ 99)) → (6 ≤ (gF G 6 0 2)) → P (some (vI (-2))) G) (h3 : (((0 ≤ a ∧ a ≤ 99) ∧ 0 ≤ b ∧ b ≤ 99)) → (¬ (6 ≤ (gF G 6 0 2))) → P (some (vI ((gF G 6 0 2) + 1))) (sF (sA (sA G 60 0 ((gF G 6 0 2)) (a)) 61 0 ((gF G 6 0 2)) (b)) 6 0 2 ((gF G 6 0 2) + 1))) : PW l w M_X11_round (d + 2) 0 [some (vR 11 (0)), some (vI (a)), some (vI (b))] [] G P := by
  refine pw_aload r_11_round_0 rfl ?_
  refine pw_getR r_11_round_1 fs_11_8 (by decide) ?_
  refine pw_iload r_11_round_4 rfl ?_
  refine pw_iload r_11_round_5 rfl ?_
  refine pw_callV (av := [vI (a), vI (b)]) (st := []) (ls0 := [some (vR 6 (0)), some (vI (a)), some (vI (b))]) r_11_round_6 rfl rfl rfl (Nat.le_refl _) ?_
  refine sp_X6_addList (by first | assumption | exact hz6 | omega) ?_ ?_ ?_
  · skip
    intro q1
    refine pw_iret r_11_round_9 rfl (Nat.le_refl _) ⟨rfl, ?_⟩
    exact h1 q1
  · skip
    intro q1 q2
    refine pw_iret r_11_round_9 rfl (Nat.le_refl _) ⟨rfl, ?_⟩
    exact h2 q1 q2
  · skip
    intro q1 q2
    refine pw_eqG (G' := sF (sA (sA G 60 (0) ((gF G 6 (0) 2)) (a)) 61 (0) ((gF G 6 (0) 2)) (b)) 6 (0) 2 ((gF G 6 (0) 2) + 1)) (by first | rfl | simp (disch := decide) [gF_sF, gF_sA, gF_uA, gF_sD, gA_sF, gA_sA, gA_uA, gA_sD, gD_sF, gD_sA, gD_uA, gD_sD]) ?_
    refine pw_iret r_11_round_9 rfl (Nat.le_refl _) ⟨rfl, ?_⟩
    exact h3 q1 q2
set_option maxRecDepth 10000 in
theorem sp_X11_aim {l : Launch} {w : Wo} {d : Nat} {G : PH} {P : Option PV → PH → Prop} {v : Int} (hz4 : 0 ≤ (gF G 6 0 4) ∧ (gF G 6 0 4) ≤ 4) (h1 : ¬ (1 ≤ v ∧ v ≤ 999) → P (some (vI (-1))) G) (h2 : ((1 ≤ v ∧ v ≤ 999)) → (4 ≤ (gF G 6 0 4)) → P (some (vI (-2))) G) (h3 : ((1 ≤ v ∧ v ≤ 999)) → (¬ (4 ≤ (gF G 6 0 4))) → P (some (vI ((gF G 6 0 4) + 1))) (sF (sA G 62 0 ((gF G 6 0 4)) (v)) 6 0 4 ((gF G 6 0 4) + 1))) : PW l w M_X11_aim (d + 2) 0 [some (vR 11 (0)), some (vI (v))] [] G P := by
  refine pw_aload r_11_aim_0 rfl ?_
  refine pw_getR r_11_aim_1 fs_11_8 (by decide) ?_
  refine pw_iload r_11_aim_4 rfl ?_
  refine pw_callV (av := [vI (v)]) (st := []) (ls0 := [some (vR 6 (0)), some (vI (v))]) r_11_aim_5 rfl rfl rfl (Nat.le_refl _) ?_
  refine sp_X6_addAim (by first | assumption | exact hz4 | omega) ?_ ?_ ?_
  · skip
    intro q1
    refine pw_iret r_11_aim_8 rfl (Nat.le_refl _) ⟨rfl, ?_⟩
    exact h1 q1
  · skip
    intro q1 q2
    refine pw_iret r_11_aim_8 rfl (Nat.le_refl _) ⟨rfl, ?_⟩
    exact h2 q1 q2
  · skip
    intro q1 q2
    refine pw_eqG (G' := sF (sA G 62 (0) ((gF G 6 (0) 4)) (v)) 6 (0) 4 ((gF G 6 (0) 4) + 1)) (by first | rfl | simp (disch := decide) [gF_sF, gF_sA, gF_uA, gF_sD, gA_sF, gA_sA, gA_uA, gA_sD, gD_sF, gD_sA, gD_uA, gD_sD]) ?_
    refine pw_iret r_11_aim_8 rfl (Nat.le_refl _) ⟨rfl, ?_⟩
    exact h3 q1 q2
set_option maxRecDepth 10000 in
theorem sp_X11_ordered {l : Launch} {w : Wo} {d : Nat} {G : PH} {P : Option PV → PH → Prop} {i : Int} (ho : (gF G 6 0 8) ≤ 6) (h1 : ¬ (0 ≤ i ∧ i < (gF G 6 0 8)) → P (some (vI (-1))) G) (h2 : (0 ≤ i ∧ i < (gF G 6 0 8)) → P (some (vI (gA G 64 0 (i)))) G) : PW l w M_X11_ordered (d + 1) 0 [some (vR 11 (0)), some (vI (i))] [] G P := by
  refine pw_aload r_11_ordered_0 rfl ?_
  refine pw_getR r_11_ordered_1 fs_11_8 (by decide) ?_
  refine pw_iload r_11_ordered_4 rfl ?_
  refine pw_callV (av := [vI (i)]) (st := []) (ls0 := [some (vR 6 (0)), some (vI (i))]) r_11_ordered_5 rfl rfl rfl (Nat.le_refl _) ?_
  refine sp_X6_tellOrder (by first | assumption | exact ho | omega) ?_ ?_
  · skip
    intro q1
    refine pw_iret r_11_ordered_8 rfl (Nat.le_refl _) ⟨rfl, ?_⟩
    exact h1 q1
  · skip
    intro q1
    refine pw_iret r_11_ordered_8 rfl (Nat.le_refl _) ⟨rfl, ?_⟩
    exact h2 q1
set_option maxRecDepth 10000 in
theorem sp_X11_trace {l : Launch} {w : Wo} {d : Nat} {G : PH} {P : Option PV → PH → Prop} {i : Int} (hk : (gF G 1 0 17) ≤ 24) (h1 : ¬ (0 ≤ i ∧ i < (gF G 1 0 17)) → P (some (vI (-1))) G) (h2 : (0 ≤ i ∧ i < (gF G 1 0 17)) → P (some (vI (gA G 40 0 (i)))) G) : PW l w M_X11_trace (d + 1) 0 [some (vR 11 (0)), some (vI (i))] [] G P := by
  refine pw_aload r_11_trace_0 rfl ?_
  refine pw_getR r_11_trace_1 fs_11_1 (by decide) ?_
  refine pw_iload r_11_trace_4 rfl ?_
  refine pw_callV (av := [vI (i)]) (st := []) (ls0 := [some (vR 1 (0)), some (vI (i))]) r_11_trace_5 rfl rfl rfl (Nat.le_refl _) ?_
  refine sp_X1_tellTrace (by first | assumption | exact hk | omega) ?_ ?_
  · skip
    intro q1
    refine pw_iret r_11_trace_8 rfl (Nat.le_refl _) ⟨rfl, ?_⟩
    exact h1 q1
  · skip
    intro q1
    refine pw_iret r_11_trace_8 rfl (Nat.le_refl _) ⟨rfl, ?_⟩
    exact h2 q1
