/-- the value at the last place below n where q is so; z if there is none -/
noncomputable def lastN (q : Int → Prop) (v : Int → Int) (z : Int) : Nat → Int
  | 0 => z
  | n + 1 => @ite Int (q n) (Classical.propDecidable _) (v n) (lastN q v z n)
noncomputable def lastOf (q : Int → Prop) (v : Int → Int) (z n : Int) : Int := lastN q v z n.toNat
theorem last_0 (q : Int → Prop) (v : Int → Int) (z : Int) : lastOf q v z 0 = z := rfl
theorem last_t {q : Int → Prop} {v : Int → Int} {z n : Int} (h : 0 ≤ n) (hq : q n) : lastOf q v z (n + 1) = v n := by
  unfold lastOf
  rw [show (n + 1).toNat = n.toNat + 1 by omega, lastN, Int.toNat_of_nonneg h]
  exact if_pos hq
theorem last_f {q : Int → Prop} {v : Int → Int} {z n : Int} (h : 0 ≤ n) (hq : ¬ q n) : lastOf q v z (n + 1) = lastOf q v z n := by
  unfold lastOf
  rw [show (n + 1).toNat = n.toNat + 1 by omega, lastN, Int.toNat_of_nonneg h]
  exact if_neg hq
theorem last_congr {q r : Int → Prop} {v u : Int → Int} {z n : Int} (hn : 0 ≤ n) (h : ∀ i, 0 ≤ i → i < n → (q i ↔ r i)) (hv : ∀ i, 0 ≤ i → i < n → r i → v i = u i) : lastOf q v z n = lastOf r u z n := by
  refine nat_ind (p := fun n => (∀ i, 0 ≤ i → i < n → (q i ↔ r i)) → (∀ i, 0 ≤ i → i < n → r i → v i = u i) → lastOf q v z n = lastOf r u z n) (fun _ _ => rfl) (fun n hn ih h hv => ?_) n hn h hv
  have h1 := ih (fun i a b => h i a (by omega)) (fun i a b => hv i a (by omega))
  have h2 := h n hn (by omega)
  by_cases e : r n
  · rw [last_t hn (h2.mpr e), last_t hn e, hv n hn (by omega) e]
  · rw [last_f hn (fun x => e (h2.mp x)), last_f hn e, h1]
theorem last_in {q : Int → Prop} {v : Int → Int} {z n : Int} (hn : 0 ≤ n) : (lastOf q v z n = z ∧ ∀ i, 0 ≤ i → i < n → ¬ q i) ∨ ∃ i, 0 ≤ i ∧ i < n ∧ q i ∧ lastOf q v z n = v i := by
  refine nat_ind (p := fun n => (lastOf q v z n = z ∧ ∀ i, 0 ≤ i → i < n → ¬ q i) ∨ ∃ i, 0 ≤ i ∧ i < n ∧ q i ∧ lastOf q v z n = v i) (Or.inl ⟨rfl, fun i a b => by omega⟩) (fun n hn ih => ?_) n hn
  by_cases e : q n
  · exact Or.inr ⟨n, hn, by omega, e, last_t hn e⟩
  · rw [last_f hn e]
    rcases ih with ⟨h1, h2⟩ | ⟨i, a, b, c, d⟩
    · exact Or.inl ⟨h1, all_s h2 e⟩
    · exact Or.inr ⟨i, a, by omega, c, d⟩
/-- when what was told comes by a letter -/
def cmR (n : Int) (sent : Int → Int) (told z r : Int) : Prop := (∃ l, 0 ≤ l ∧ l < n ∧ told ≤ sent l ∧ (∀ k, 0 ≤ k → k < l → sent k < told) ∧ r = sent l + 7) ∨ ((∀ k, 0 ≤ k → k < n → sent k < told) ∧ r = z)
theorem cmR_one {n told z r r1 : Int} {sent : Int → Int} (h : cmR n sent told z r) (h1 : cmR n sent told z r1) : r = r1 := by
  rcases h with ⟨l, a, b, c, d, e⟩ | ⟨a, e⟩ <;> rcases h1 with ⟨l1, a1, b1, c1, d1, e1⟩ | ⟨a1, e1⟩
  · rcases Int.lt_trichotomy l l1 with q | q | q
    · have := d1 l a q; omega
    · rw [e, e1, q]
    · have := d l1 a1 q; omega
  · have := a1 l a b; omega
  · have := a l1 a1 b1; omega
  · rw [e, e1]
noncomputable def cmF (n : Int) (sent : Int → Int) (told z : Int) : Int := @ite Int (∃ r, cmR n sent told z r) (Classical.propDecidable _) (Classical.epsilon (cmR n sent told z)) z
theorem cmF_is {n told z r : Int} {sent : Int → Int} (h : cmR n sent told z r) : cmF n sent told z = r := by
  unfold cmF
  rw [if_pos ⟨r, h⟩]
  exact cmR_one (Classical.epsilon_spec ⟨r, h⟩) h
theorem cm_le {n told k r : Int} {sent : Int → Int} (hk : k ≤ 600) (h : comesOk n sent told r) : cmF n sent told 100000 ≤ k ↔ r ≤ k := by
  rcases h with ⟨l, a, b, c, d, e⟩ | ⟨a, e⟩
  · rw [cmF_is (Or.inl ⟨l, a, b, c, d, rfl⟩), e]
  · rw [cmF_is (Or.inr ⟨a, rfl⟩)]; omega

theorem wd_f9_43 : Cond.fieldLink "NameRolls$Tidings" 43 "NameRolls$Tidings" "crowd" "LNameRolls$Crowd;" ∈ UW := UW1_at 142 (by decide +kernel) rfl
theorem wd_m9_47 : Cond.methodLink "NameRolls$Tidings" 47 M_X1_get.1 ∈ UW := UW4_at 30 (by decide +kernel) rfl
theorem wd_f9_62 : Cond.fieldLink "NameRolls$Tidings" 62 "NameRolls$Tidings" "facts" "I" ∈ UW := UW1_at 136 (by decide +kernel) rfl
theorem wd_f9_11 : Cond.fieldLink "NameRolls$Tidings" 11 "NameRolls$Tidings" "factPerson" "[I" ∈ UW := UW1_at 143 (by decide +kernel) rfl
theorem wd_f9_15 : Cond.fieldLink "NameRolls$Tidings" 15 "NameRolls$Tidings" "factSort" "[I" ∈ UW := UW1_at 144 (by decide +kernel) rfl
theorem wd_f9_18 : Cond.fieldLink "NameRolls$Tidings" 18 "NameRolls$Tidings" "factValue" "[I" ∈ UW := UW1_at 145 (by decide +kernel) rfl
theorem wd_f9_21 : Cond.fieldLink "NameRolls$Tidings" 21 "NameRolls$Tidings" "factDay" "[I" ∈ UW := UW1_at 146 (by decide +kernel) rfl
theorem wd_f9_68 : Cond.fieldLink "NameRolls$Tidings" 68 "NameRolls$Crowd" "day" "I" ∈ UW := UW1_at 71 (by decide +kernel) rfl
theorem wd_f9_24 : Cond.fieldLink "NameRolls$Tidings" 24 "NameRolls$Tidings" "factComes" "[I" ∈ UW := UW1_at 147 (by decide +kernel) rfl
theorem wd_f9_27 : Cond.fieldLink "NameRolls$Tidings" 27 "NameRolls$Tidings" "latestLetter" "I" ∈ UW := UW1_at 148 (by decide +kernel) rfl
theorem wd_c9_71 : Cond.constant "NameRolls$Tidings" 71 (Int32.ofInt 1000000000) ∈ UW := UW4_at 32 (by decide +kernel) rfl
theorem wd_f9_65 : Cond.fieldLink "NameRolls$Tidings" 65 "NameRolls$Person" "grade" "I" ∈ UW := UW3_at 168 (by decide +kernel) rfl
theorem wd_f9_57 : Cond.fieldLink "NameRolls$Tidings" 57 "NameRolls$Person" "state" "I" ∈ UW := UW3_at 175 (by decide +kernel) rfl
theorem wd_f12_67 : Cond.fieldLink "NameRollsModel" 67 "NameRollsModel" "factOf" "[I" ∈ UW := UW7_at 91 (by decide +kernel) rfl
theorem wd_f12_70 : Cond.fieldLink "NameRollsModel" 70 "NameRollsModel" "factSort" "[I" ∈ UW := UW7_at 92 (by decide +kernel) rfl
theorem wd_f12_73 : Cond.fieldLink "NameRollsModel" 73 "NameRollsModel" "factValue" "[I" ∈ UW := UW7_at 93 (by decide +kernel) rfl
theorem wd_f12_76 : Cond.fieldLink "NameRollsModel" 76 "NameRollsModel" "factTold" "[I" ∈ UW := UW7_at 94 (by decide +kernel) rfl
theorem wd_f9_72 : Cond.fieldLink "NameRolls$Tidings" 72 "NameRolls$Tidings" "letters" "I" ∈ UW := UW1_at 138 (by decide +kernel) rfl
theorem wd_f12_79 : Cond.fieldLink "NameRollsModel" 79 "NameRollsModel" "sent" "[I" ∈ UW := UW7_at 96 (by decide +kernel) rfl
theorem wd_f9_89 : Cond.fieldLink "NameRolls$Tidings" 89 "NameRolls$Person" "number" "I" ∈ UW := UW3_at 148 (by decide +kernel) rfl
theorem wd_f9_86 : Cond.fieldLink "NameRolls$Tidings" 86 "NameRolls$Person" "side" "I" ∈ UW := UW3_at 156 (by decide +kernel) rfl
theorem wd_m9_82 : Cond.methodLink "NameRolls$Tidings" 82 M_X9_valueKnown.1 ∈ UW := UW4_at 54 (by decide +kernel) rfl
theorem wd_s9_valueKnown : Cond.selects M_X9_valueKnown.1.cls M_X9_valueKnown.1 M_X9_valueKnown.1 ∈ UW := UW4_at 56 (by decide +kernel) rfl
theorem wd_m12_299 : Cond.methodLink "NameRollsModel" 299 M_X12_knownFrom.1 ∈ UW := UW9_at 23 (by decide +kernel) rfl
theorem wd_s12_knownFrom : Cond.selects M_X12_knownFrom.1.cls M_X12_knownFrom.1 M_X12_knownFrom.1 ∈ UW := UWp_at 68 (by decide +kernel) rfl
theorem wd_m12_302 : Cond.methodLink "NameRollsModel" 302 M_X12_isDay.1 ∈ UW := UW9_at 16 (by decide +kernel) rfl
theorem wd_m12_305 : Cond.methodLink "NameRollsModel" 305 M_X12_knownTo.1 ∈ UW := UW9_at 19 (by decide +kernel) rfl
theorem wd_s12_knownTo : Cond.selects M_X12_knownTo.1.cls M_X12_knownTo.1 M_X12_knownTo.1 ∈ UW := UWp_at 67 (by decide +kernel) rfl
theorem wd_f9_92 : Cond.fieldLink "NameRolls$Tidings" 92 "NameRolls$Tidings" "promises" "I" ∈ UW := UW1_at 140 (by decide +kernel) rfl
theorem wd_f9_31 : Cond.fieldLink "NameRolls$Tidings" 31 "NameRolls$Tidings" "promiseSide" "[I" ∈ UW := UW1_at 149 (by decide +kernel) rfl
theorem wd_f9_34 : Cond.fieldLink "NameRolls$Tidings" 34 "NameRolls$Tidings" "promiseNumber" "[I" ∈ UW := UW1_at 150 (by decide +kernel) rfl
theorem wd_f9_37 : Cond.fieldLink "NameRolls$Tidings" 37 "NameRolls$Tidings" "promiseFrom" "[I" ∈ UW := UW1_at 151 (by decide +kernel) rfl
theorem wd_f9_40 : Cond.fieldLink "NameRolls$Tidings" 40 "NameRolls$Tidings" "promiseTo" "[I" ∈ UW := UW1_at 152 (by decide +kernel) rfl
theorem wd_f12_85 : Cond.fieldLink "NameRollsModel" 85 "NameRollsModel" "promiseMany" "[I" ∈ UW := UW7_at 99 (by decide +kernel) rfl
theorem wd_m9_95 : Cond.methodLink "NameRolls$Tidings" 95 M_X1_countHandedOver.1 ∈ UW := UW4_at 74 (by decide +kernel) rfl
theorem wd_s1_countHandedOver : Cond.selects M_X1_countHandedOver.1.cls M_X1_countHandedOver.1 M_X1_countHandedOver.1 ∈ UW := UW4_at 76 (by decide +kernel) rfl
theorem wd_m12_312 : Cond.methodLink "NameRollsModel" 312 M_X12_doneOf.1 ∈ UW := UW9_at 35 (by decide +kernel) rfl
theorem wd_s12_doneOf : Cond.selects M_X12_doneOf.1.cls M_X12_doneOf.1 M_X12_doneOf.1 ∈ UW := UWp_at 69 (by decide +kernel) rfl
theorem wd_m9_99 : Cond.methodLink "NameRolls$Tidings" 99 M_X9_isBroken.1 ∈ UW := UW4_at 78 (by decide +kernel) rfl
theorem wd_s9_isBroken : Cond.selects M_X9_isBroken.1.cls M_X9_isBroken.1 M_X9_isBroken.1 ∈ UW := UWp_at 12 (by decide +kernel) rfl
theorem wd_m12_315 : Cond.methodLink "NameRollsModel" 315 M_X12_isBroken.1 ∈ UW := UW9_at 39 (by decide +kernel) rfl
theorem wd_s12_isBroken : Cond.selects M_X12_isBroken.1.cls M_X12_isBroken.1 M_X12_isBroken.1 ∈ UW := UWp_at 70 (by decide +kernel) rfl
theorem wd_m9_103 : Cond.methodLink "NameRolls$Tidings" 103 M_X9_countBroken.1 ∈ UW := UW4_at 90 (by decide +kernel) rfl
theorem wd_s9_countBroken : Cond.selects M_X9_countBroken.1.cls M_X9_countBroken.1 M_X9_countBroken.1 ∈ UW := UW4_at 92 (by decide +kernel) rfl
theorem wd_m12_319 : Cond.methodLink "NameRollsModel" 319 M_X12_brokenOf.1 ∈ UW := UW9_at 47 (by decide +kernel) rfl
theorem wd_s12_brokenOf : Cond.selects M_X12_brokenOf.1.cls M_X12_brokenOf.1 M_X12_brokenOf.1 ∈ UW := UWp_at 71 (by decide +kernel) rfl
theorem wd_m11_119 : Cond.methodLink "NameRolls" 119 M_X9_addFact.1 ∈ UW := UW4_at 26 (by decide +kernel) rfl
theorem wd_s9_addFact : Cond.selects M_X9_addFact.1.cls M_X9_addFact.1 M_X9_addFact.1 ∈ UW := UW4_at 28 (by decide +kernel) rfl
theorem wd_m11_122 : Cond.methodLink "NameRolls" 122 M_X9_addLetter.1 ∈ UW := UW4_at 37 (by decide +kernel) rfl
theorem wd_s9_addLetter : Cond.selects M_X9_addLetter.1.cls M_X9_addLetter.1 M_X9_addLetter.1 ∈ UW := UW4_at 39 (by decide +kernel) rfl
theorem wd_m11_126 : Cond.methodLink "NameRolls" 126 M_X9_tellKnown.1 ∈ UW := UW4_at 45 (by decide +kernel) rfl
theorem wd_s9_tellKnown : Cond.selects M_X9_tellKnown.1.cls M_X9_tellKnown.1 M_X9_tellKnown.1 ∈ UW := UW4_at 47 (by decide +kernel) rfl
theorem wd_m11_130 : Cond.methodLink "NameRolls" 130 M_X9_addPromise.1 ∈ UW := UW4_at 62 (by decide +kernel) rfl
theorem wd_s9_addPromise : Cond.selects M_X9_addPromise.1.cls M_X9_addPromise.1 M_X9_addPromise.1 ∈ UW := UW4_at 64 (by decide +kernel) rfl
theorem wd_m11_133 : Cond.methodLink "NameRolls" 133 M_X9_tellPromise.1 ∈ UW := UW4_at 70 (by decide +kernel) rfl
theorem wd_s9_tellPromise : Cond.selects M_X9_tellPromise.1.cls M_X9_tellPromise.1 M_X9_tellPromise.1 ∈ UW := UW4_at 72 (by decide +kernel) rfl
theorem wd_m11_136 : Cond.methodLink "NameRolls" 136 M_X9_tellBroken.1 ∈ UW := UW4_at 86 (by decide +kernel) rfl
theorem wd_s9_tellBroken : Cond.selects M_X9_tellBroken.1.cls M_X9_tellBroken.1 M_X9_tellBroken.1 ∈ UW := UW4_at 88 (by decide +kernel) rfl
theorem r_9_addFact_0 : RA M_X9_addFact 0 0 1 := Or.inl ⟨0, by decide +kernel, rfl, rfl⟩
theorem r_9_addFact_1 : RG M_X9_addFact 1 9 3 4 := ⟨43, _, by decide +kernel, rfl, by decide, wd_f9_43, rfl, rfl⟩
theorem r_9_addFact_4 : RL M_X9_addFact 4 1 5 := Or.inl ⟨1, by decide +kernel, rfl, rfl⟩
theorem r_9_addFact_5 : RKv M_X9_addFact M_X1_get 5 1 1 8 := ⟨47, by decide +kernel, wd_m9_47, ok_M_X1_get, wd_s1_get, rfl⟩
theorem r_9_addFact_8 : RT M_X9_addFact 8 4 10 := ⟨by decide, Or.inr ⟨by decide +kernel, rfl⟩⟩
theorem r_9_addFact_10 : RA M_X9_addFact 10 4 12 := Or.inr ⟨by decide +kernel, rfl⟩
theorem r_9_addFact_12 : RB M_X9_addFact 12 .ifnull 33 15 := ⟨21, by decide +kernel, rfl, rfl⟩
theorem r_9_addFact_33 : RC M_X9_addFact 33 (-1) 34 := ⟨⟨by decide, by decide⟩, Or.inl ⟨by decide +kernel, rfl⟩⟩
theorem r_9_addFact_34 : RW M_X9_addFact 34 .ireturn 35 1 := ⟨by decide +kernel, rfl⟩
theorem r_9_addFact_15 : RL M_X9_addFact 15 2 16 := Or.inl ⟨2, by decide +kernel, rfl, rfl⟩
theorem r_9_addFact_16 : RC M_X9_addFact 16 0 17 := ⟨⟨by decide, by decide⟩, Or.inl ⟨by decide +kernel, rfl⟩⟩
theorem r_9_addFact_17 : RC M_X9_addFact 17 2 18 := ⟨⟨by decide, by decide⟩, Or.inl ⟨by decide +kernel, rfl⟩⟩
theorem r_9_addFact_18 : RKs M_X9_addFact M_X11_within 18 3 21 := ⟨53, by decide +kernel, Or.inr (by decide +kernel), ok_M_X11_within, rfl⟩
theorem r_9_addFact_21 : RB M_X9_addFact 21 (.ifCond .eq) 33 24 := ⟨12, by decide +kernel, rfl, rfl⟩
theorem r_9_addFact_24 : RL M_X9_addFact 24 3 25 := Or.inl ⟨3, by decide +kernel, rfl, rfl⟩
theorem r_9_addFact_25 : RC M_X9_addFact 25 0 26 := ⟨⟨by decide, by decide⟩, Or.inl ⟨by decide +kernel, rfl⟩⟩
theorem r_9_addFact_26 : RC M_X9_addFact 26 1 27 := ⟨⟨by decide, by decide⟩, Or.inl ⟨by decide +kernel, rfl⟩⟩
theorem r_9_addFact_27 : RKs M_X9_addFact M_X11_within 27 3 30 := ⟨53, by decide +kernel, Or.inr (by decide +kernel), ok_M_X11_within, rfl⟩
theorem r_9_addFact_30 : RB M_X9_addFact 30 (.ifCond .ne) 35 33 := ⟨5, by decide +kernel, rfl, rfl⟩
theorem r_9_addFact_35 : RL M_X9_addFact 35 2 36 := Or.inl ⟨2, by decide +kernel, rfl, rfl⟩
theorem r_9_addFact_36 : RB M_X9_addFact 36 (.ifCond .ne) 50 39 := ⟨14, by decide +kernel, rfl, rfl⟩
theorem r_9_addFact_50 : RA M_X9_addFact 50 0 51 := Or.inl ⟨0, by decide +kernel, rfl, rfl⟩
theorem r_9_addFact_51 : RG M_X9_addFact 51 9 0 54 := ⟨62, _, by decide +kernel, rfl, by decide, wd_f9_62, rfl, rfl⟩
theorem r_9_addFact_54 : RC M_X9_addFact 54 300 57 := ⟨⟨by decide, by decide⟩, Or.inr (Or.inr (Or.inl ⟨by decide +kernel, by decide, rfl⟩))⟩
theorem r_9_addFact_57 : RB M_X9_addFact 57 (.if_icmp .lt) 63 60 := ⟨6, by decide +kernel, rfl, rfl⟩
theorem r_9_addFact_63 : RA M_X9_addFact 63 0 64 := Or.inl ⟨0, by decide +kernel, rfl, rfl⟩
theorem r_9_addFact_64 : RG M_X9_addFact 64 9 4 67 := ⟨11, _, by decide +kernel, rfl, by decide, wd_f9_11, rfl, rfl⟩
theorem r_9_addFact_67 : RA M_X9_addFact 67 0 68 := Or.inl ⟨0, by decide +kernel, rfl, rfl⟩
theorem r_9_addFact_68 : RG M_X9_addFact 68 9 0 71 := ⟨62, _, by decide +kernel, rfl, by decide, wd_f9_62, rfl, rfl⟩
theorem r_9_addFact_71 : RL M_X9_addFact 71 1 72 := Or.inl ⟨1, by decide +kernel, rfl, rfl⟩
theorem r_9_addFact_72 : RW M_X9_addFact 72 .iastore 73 1 := ⟨by decide +kernel, rfl⟩
theorem r_9_addFact_73 : RA M_X9_addFact 73 0 74 := Or.inl ⟨0, by decide +kernel, rfl, rfl⟩
theorem r_9_addFact_74 : RG M_X9_addFact 74 9 5 77 := ⟨15, _, by decide +kernel, rfl, by decide, wd_f9_15, rfl, rfl⟩
theorem r_9_addFact_77 : RA M_X9_addFact 77 0 78 := Or.inl ⟨0, by decide +kernel, rfl, rfl⟩
theorem r_9_addFact_78 : RG M_X9_addFact 78 9 0 81 := ⟨62, _, by decide +kernel, rfl, by decide, wd_f9_62, rfl, rfl⟩
theorem r_9_addFact_81 : RL M_X9_addFact 81 2 82 := Or.inl ⟨2, by decide +kernel, rfl, rfl⟩
theorem r_9_addFact_82 : RW M_X9_addFact 82 .iastore 83 1 := ⟨by decide +kernel, rfl⟩
theorem r_9_addFact_83 : RA M_X9_addFact 83 0 84 := Or.inl ⟨0, by decide +kernel, rfl, rfl⟩
theorem r_9_addFact_84 : RG M_X9_addFact 84 9 6 87 := ⟨18, _, by decide +kernel, rfl, by decide, wd_f9_18, rfl, rfl⟩
theorem r_9_addFact_87 : RA M_X9_addFact 87 0 88 := Or.inl ⟨0, by decide +kernel, rfl, rfl⟩
theorem r_9_addFact_88 : RG M_X9_addFact 88 9 0 91 := ⟨62, _, by decide +kernel, rfl, by decide, wd_f9_62, rfl, rfl⟩
theorem r_9_addFact_91 : RL M_X9_addFact 91 2 92 := Or.inl ⟨2, by decide +kernel, rfl, rfl⟩
theorem r_9_addFact_92 : RB M_X9_addFact 92 (.ifCond .ne) 103 95 := ⟨11, by decide +kernel, rfl, rfl⟩
theorem r_9_addFact_103 : RL M_X9_addFact 103 3 104 := Or.inl ⟨3, by decide +kernel, rfl, rfl⟩
theorem r_9_addFact_104 : RW M_X9_addFact 104 .iastore 105 1 := ⟨by decide +kernel, rfl⟩
theorem r_9_addFact_105 : RA M_X9_addFact 105 0 106 := Or.inl ⟨0, by decide +kernel, rfl, rfl⟩
theorem r_9_addFact_106 : RG M_X9_addFact 106 9 7 109 := ⟨21, _, by decide +kernel, rfl, by decide, wd_f9_21, rfl, rfl⟩
theorem r_9_addFact_109 : RA M_X9_addFact 109 0 110 := Or.inl ⟨0, by decide +kernel, rfl, rfl⟩
theorem r_9_addFact_110 : RG M_X9_addFact 110 9 0 113 := ⟨62, _, by decide +kernel, rfl, by decide, wd_f9_62, rfl, rfl⟩
theorem r_9_addFact_113 : RA M_X9_addFact 113 0 114 := Or.inl ⟨0, by decide +kernel, rfl, rfl⟩
theorem r_9_addFact_114 : RG M_X9_addFact 114 9 3 117 := ⟨43, _, by decide +kernel, rfl, by decide, wd_f9_43, rfl, rfl⟩
theorem r_9_addFact_117 : RG M_X9_addFact 117 1 2 120 := ⟨68, _, by decide +kernel, rfl, by decide, wd_f9_68, rfl, rfl⟩
theorem r_9_addFact_120 : RW M_X9_addFact 120 .iastore 121 1 := ⟨by decide +kernel, rfl⟩
theorem r_9_addFact_121 : RA M_X9_addFact 121 0 122 := Or.inl ⟨0, by decide +kernel, rfl, rfl⟩
theorem r_9_addFact_122 : RG M_X9_addFact 122 9 8 125 := ⟨24, _, by decide +kernel, rfl, by decide, wd_f9_24, rfl, rfl⟩
theorem r_9_addFact_125 : RA M_X9_addFact 125 0 126 := Or.inl ⟨0, by decide +kernel, rfl, rfl⟩
theorem r_9_addFact_126 : RG M_X9_addFact 126 9 0 129 := ⟨62, _, by decide +kernel, rfl, by decide, wd_f9_62, rfl, rfl⟩
theorem r_9_addFact_129 : RA M_X9_addFact 129 0 130 := Or.inl ⟨0, by decide +kernel, rfl, rfl⟩
theorem r_9_addFact_130 : RG M_X9_addFact 130 9 9 133 := ⟨27, _, by decide +kernel, rfl, by decide, wd_f9_27, rfl, rfl⟩
theorem r_9_addFact_133 : RA M_X9_addFact 133 0 134 := Or.inl ⟨0, by decide +kernel, rfl, rfl⟩
theorem r_9_addFact_134 : RG M_X9_addFact 134 9 3 137 := ⟨43, _, by decide +kernel, rfl, by decide, wd_f9_43, rfl, rfl⟩
theorem r_9_addFact_137 : RG M_X9_addFact 137 1 2 140 := ⟨68, _, by decide +kernel, rfl, by decide, wd_f9_68, rfl, rfl⟩
theorem r_9_addFact_140 : RB M_X9_addFact 140 (.if_icmp .ne) 156 143 := ⟨16, by decide +kernel, rfl, rfl⟩
theorem r_9_addFact_156 : RC M_X9_addFact 156 1000000000 158 := ⟨⟨by decide, by decide⟩, Or.inr (Or.inr (Or.inr (Or.inl ⟨71, by decide +kernel, wd_c9_71, rfl⟩)))⟩
theorem r_9_addFact_158 : RW M_X9_addFact 158 .iastore 159 1 := ⟨by decide +kernel, rfl⟩
theorem r_9_addFact_159 : RA M_X9_addFact 159 0 160 := Or.inl ⟨0, by decide +kernel, rfl, rfl⟩
theorem r_9_addFact_160 : RW M_X9_addFact 160 .dup 161 1 := ⟨by decide +kernel, rfl⟩
theorem r_9_addFact_161 : RG M_X9_addFact 161 9 0 164 := ⟨62, _, by decide +kernel, rfl, by decide, wd_f9_62, rfl, rfl⟩
theorem r_9_addFact_164 : RC M_X9_addFact 164 1 165 := ⟨⟨by decide, by decide⟩, Or.inl ⟨by decide +kernel, rfl⟩⟩
theorem r_9_addFact_165 : RW M_X9_addFact 165 .iadd 166 1 := ⟨by decide +kernel, rfl⟩
theorem r_9_addFact_166 : RP M_X9_addFact 166 9 0 169 := ⟨62, _, by decide +kernel, rfl, by decide, wd_f9_62, rfl, Or.inl rfl, rfl⟩
theorem r_9_addFact_169 : RA M_X9_addFact 169 0 170 := Or.inl ⟨0, by decide +kernel, rfl, rfl⟩
theorem r_9_addFact_170 : RG M_X9_addFact 170 9 0 173 := ⟨62, _, by decide +kernel, rfl, by decide, wd_f9_62, rfl, rfl⟩
theorem r_9_addFact_173 : RW M_X9_addFact 173 .ireturn 174 1 := ⟨by decide +kernel, rfl⟩
theorem r_9_addFact_143 : RA M_X9_addFact 143 0 144 := Or.inl ⟨0, by decide +kernel, rfl, rfl⟩
theorem r_9_addFact_144 : RG M_X9_addFact 144 9 3 147 := ⟨43, _, by decide +kernel, rfl, by decide, wd_f9_43, rfl, rfl⟩
theorem r_9_addFact_147 : RG M_X9_addFact 147 1 2 150 := ⟨68, _, by decide +kernel, rfl, by decide, wd_f9_68, rfl, rfl⟩
theorem r_9_addFact_150 : RC M_X9_addFact 150 7 152 := ⟨⟨by decide, by decide⟩, Or.inr (Or.inl ⟨by decide +kernel, by decide, rfl⟩)⟩
theorem r_9_addFact_152 : RW M_X9_addFact 152 .iadd 153 1 := ⟨by decide +kernel, rfl⟩
theorem r_9_addFact_153 : RB M_X9_addFact 153 .goto 158 156 := ⟨5, by decide +kernel, rfl, rfl⟩
theorem r_9_addFact_95 : RA M_X9_addFact 95 4 97 := Or.inr ⟨by decide +kernel, rfl⟩
theorem r_9_addFact_97 : RG M_X9_addFact 97 3 6 100 := ⟨65, _, by decide +kernel, rfl, by decide, wd_f9_65, rfl, rfl⟩
theorem r_9_addFact_100 : RB M_X9_addFact 100 .goto 104 103 := ⟨4, by decide +kernel, rfl, rfl⟩
theorem r_9_addFact_60 : RC M_X9_addFact 60 (-2) 62 := ⟨⟨by decide, by decide⟩, Or.inr (Or.inl ⟨by decide +kernel, by decide, rfl⟩)⟩
theorem r_9_addFact_62 : RW M_X9_addFact 62 .ireturn 63 1 := ⟨by decide +kernel, rfl⟩
theorem r_9_addFact_39 : RA M_X9_addFact 39 4 41 := Or.inr ⟨by decide +kernel, rfl⟩
theorem r_9_addFact_41 : RG M_X9_addFact 41 3 8 44 := ⟨57, _, by decide +kernel, rfl, by decide, wd_f9_57, rfl, rfl⟩
theorem r_9_addFact_44 : RB M_X9_addFact 44 (.ifCond .eq) 50 47 := ⟨6, by decide +kernel, rfl, rfl⟩
theorem r_9_addFact_47 : RC M_X9_addFact 47 (-3) 49 := ⟨⟨by decide, by decide⟩, Or.inr (Or.inl ⟨by decide +kernel, by decide, rfl⟩)⟩
theorem r_9_addFact_49 : RW M_X9_addFact 49 .ireturn 50 1 := ⟨by decide +kernel, rfl⟩
theorem r_12_fact_0 : RA M_X12_fact 0 0 1 := Or.inl ⟨0, by decide +kernel, rfl, rfl⟩
theorem r_12_fact_1 : RL M_X12_fact 1 1 2 := Or.inl ⟨1, by decide +kernel, rfl, rfl⟩
theorem r_12_fact_2 : RKv M_X12_fact M_X12_isPerson 2 1 12 5 := ⟨278, by decide +kernel, wd_m12_278, ok_M_X12_isPerson, wd_s12_isPerson, rfl⟩
theorem r_12_fact_5 : RB M_X12_fact 5 (.ifCond .eq) 26 8 := ⟨21, by decide +kernel, rfl, rfl⟩
theorem r_12_fact_26 : RC M_X12_fact 26 (-1) 27 := ⟨⟨by decide, by decide⟩, Or.inl ⟨by decide +kernel, rfl⟩⟩
theorem r_12_fact_27 : RW M_X12_fact 27 .ireturn 28 1 := ⟨by decide +kernel, rfl⟩
theorem r_12_fact_8 : RL M_X12_fact 8 2 9 := Or.inl ⟨2, by decide +kernel, rfl, rfl⟩
theorem r_12_fact_9 : RC M_X12_fact 9 0 10 := ⟨⟨by decide, by decide⟩, Or.inl ⟨by decide +kernel, rfl⟩⟩
theorem r_12_fact_10 : RC M_X12_fact 10 2 11 := ⟨⟨by decide, by decide⟩, Or.inl ⟨by decide +kernel, rfl⟩⟩
theorem r_12_fact_11 : RKs M_X12_fact M_X12_within 11 3 14 := ⟨240, by decide +kernel, Or.inl wd_m12_240, ok_M_X12_within, rfl⟩
theorem r_12_fact_14 : RB M_X12_fact 14 (.ifCond .eq) 26 17 := ⟨12, by decide +kernel, rfl, rfl⟩
theorem r_12_fact_17 : RL M_X12_fact 17 3 18 := Or.inl ⟨3, by decide +kernel, rfl, rfl⟩
theorem r_12_fact_18 : RC M_X12_fact 18 0 19 := ⟨⟨by decide, by decide⟩, Or.inl ⟨by decide +kernel, rfl⟩⟩
theorem r_12_fact_19 : RC M_X12_fact 19 1 20 := ⟨⟨by decide, by decide⟩, Or.inl ⟨by decide +kernel, rfl⟩⟩
theorem r_12_fact_20 : RKs M_X12_fact M_X12_within 20 3 23 := ⟨240, by decide +kernel, Or.inl wd_m12_240, ok_M_X12_within, rfl⟩
theorem r_12_fact_23 : RB M_X12_fact 23 (.ifCond .ne) 28 26 := ⟨5, by decide +kernel, rfl, rfl⟩
theorem r_12_fact_28 : RL M_X12_fact 28 2 29 := Or.inl ⟨2, by decide +kernel, rfl, rfl⟩
theorem r_12_fact_29 : RB M_X12_fact 29 (.ifCond .ne) 44 32 := ⟨15, by decide +kernel, rfl, rfl⟩
theorem r_12_fact_44 : RA M_X12_fact 44 0 45 := Or.inl ⟨0, by decide +kernel, rfl, rfl⟩
theorem r_12_fact_45 : RG M_X12_fact 45 12 27 48 := ⟨293, _, by decide +kernel, rfl, by decide, wd_f12_293, rfl, rfl⟩
theorem r_12_fact_48 : RC M_X12_fact 48 300 51 := ⟨⟨by decide, by decide⟩, Or.inr (Or.inr (Or.inl ⟨by decide +kernel, by decide, rfl⟩))⟩
theorem r_12_fact_51 : RB M_X12_fact 51 (.if_icmp .ne) 57 54 := ⟨6, by decide +kernel, rfl, rfl⟩
theorem r_12_fact_57 : RA M_X12_fact 57 0 58 := Or.inl ⟨0, by decide +kernel, rfl, rfl⟩
theorem r_12_fact_58 : RG M_X12_fact 58 12 23 61 := ⟨67, _, by decide +kernel, rfl, by decide, wd_f12_67, rfl, rfl⟩
theorem r_12_fact_61 : RA M_X12_fact 61 0 62 := Or.inl ⟨0, by decide +kernel, rfl, rfl⟩
theorem r_12_fact_62 : RG M_X12_fact 62 12 27 65 := ⟨293, _, by decide +kernel, rfl, by decide, wd_f12_293, rfl, rfl⟩
theorem r_12_fact_65 : RL M_X12_fact 65 1 66 := Or.inl ⟨1, by decide +kernel, rfl, rfl⟩
theorem r_12_fact_66 : RW M_X12_fact 66 .iastore 67 1 := ⟨by decide +kernel, rfl⟩
theorem r_12_fact_67 : RA M_X12_fact 67 0 68 := Or.inl ⟨0, by decide +kernel, rfl, rfl⟩
theorem r_12_fact_68 : RG M_X12_fact 68 12 24 71 := ⟨70, _, by decide +kernel, rfl, by decide, wd_f12_70, rfl, rfl⟩
theorem r_12_fact_71 : RA M_X12_fact 71 0 72 := Or.inl ⟨0, by decide +kernel, rfl, rfl⟩
theorem r_12_fact_72 : RG M_X12_fact 72 12 27 75 := ⟨293, _, by decide +kernel, rfl, by decide, wd_f12_293, rfl, rfl⟩
theorem r_12_fact_75 : RL M_X12_fact 75 2 76 := Or.inl ⟨2, by decide +kernel, rfl, rfl⟩
theorem r_12_fact_76 : RW M_X12_fact 76 .iastore 77 1 := ⟨by decide +kernel, rfl⟩
theorem r_12_fact_77 : RA M_X12_fact 77 0 78 := Or.inl ⟨0, by decide +kernel, rfl, rfl⟩
theorem r_12_fact_78 : RG M_X12_fact 78 12 25 81 := ⟨73, _, by decide +kernel, rfl, by decide, wd_f12_73, rfl, rfl⟩
theorem r_12_fact_81 : RA M_X12_fact 81 0 82 := Or.inl ⟨0, by decide +kernel, rfl, rfl⟩
theorem r_12_fact_82 : RG M_X12_fact 82 12 27 85 := ⟨293, _, by decide +kernel, rfl, by decide, wd_f12_293, rfl, rfl⟩
theorem r_12_fact_85 : RL M_X12_fact 85 2 86 := Or.inl ⟨2, by decide +kernel, rfl, rfl⟩
theorem r_12_fact_86 : RB M_X12_fact 86 (.ifCond .ne) 98 89 := ⟨12, by decide +kernel, rfl, rfl⟩
theorem r_12_fact_98 : RL M_X12_fact 98 3 99 := Or.inl ⟨3, by decide +kernel, rfl, rfl⟩
theorem r_12_fact_99 : RW M_X12_fact 99 .iastore 100 1 := ⟨by decide +kernel, rfl⟩
theorem r_12_fact_100 : RA M_X12_fact 100 0 101 := Or.inl ⟨0, by decide +kernel, rfl, rfl⟩
theorem r_12_fact_101 : RG M_X12_fact 101 12 26 104 := ⟨76, _, by decide +kernel, rfl, by decide, wd_f12_76, rfl, rfl⟩
theorem r_12_fact_104 : RA M_X12_fact 104 0 105 := Or.inl ⟨0, by decide +kernel, rfl, rfl⟩
theorem r_12_fact_105 : RG M_X12_fact 105 12 27 108 := ⟨293, _, by decide +kernel, rfl, by decide, wd_f12_293, rfl, rfl⟩
theorem r_12_fact_108 : RA M_X12_fact 108 0 109 := Or.inl ⟨0, by decide +kernel, rfl, rfl⟩
theorem r_12_fact_109 : RG M_X12_fact 109 12 0 112 := ⟨268, _, by decide +kernel, rfl, by decide, wd_f12_268, rfl, rfl⟩
theorem r_12_fact_112 : RW M_X12_fact 112 .iastore 113 1 := ⟨by decide +kernel, rfl⟩
theorem r_12_fact_113 : RA M_X12_fact 113 0 114 := Or.inl ⟨0, by decide +kernel, rfl, rfl⟩
theorem r_12_fact_114 : RW M_X12_fact 114 .dup 115 1 := ⟨by decide +kernel, rfl⟩
theorem r_12_fact_115 : RG M_X12_fact 115 12 27 118 := ⟨293, _, by decide +kernel, rfl, by decide, wd_f12_293, rfl, rfl⟩
theorem r_12_fact_118 : RC M_X12_fact 118 1 119 := ⟨⟨by decide, by decide⟩, Or.inl ⟨by decide +kernel, rfl⟩⟩
theorem r_12_fact_119 : RW M_X12_fact 119 .iadd 120 1 := ⟨by decide +kernel, rfl⟩
theorem r_12_fact_120 : RP M_X12_fact 120 12 27 123 := ⟨293, _, by decide +kernel, rfl, by decide, wd_f12_293, rfl, Or.inl rfl, rfl⟩
theorem r_12_fact_123 : RA M_X12_fact 123 0 124 := Or.inl ⟨0, by decide +kernel, rfl, rfl⟩
theorem r_12_fact_124 : RG M_X12_fact 124 12 27 127 := ⟨293, _, by decide +kernel, rfl, by decide, wd_f12_293, rfl, rfl⟩
theorem r_12_fact_127 : RW M_X12_fact 127 .ireturn 128 1 := ⟨by decide +kernel, rfl⟩
theorem r_12_fact_89 : RA M_X12_fact 89 0 90 := Or.inl ⟨0, by decide +kernel, rfl, rfl⟩
theorem r_12_fact_90 : RG M_X12_fact 90 12 12 93 := ⟨40, _, by decide +kernel, rfl, by decide, wd_f12_40, rfl, rfl⟩
theorem r_12_fact_93 : RL M_X12_fact 93 1 94 := Or.inl ⟨1, by decide +kernel, rfl, rfl⟩
theorem r_12_fact_94 : RW M_X12_fact 94 .iaload 95 1 := ⟨by decide +kernel, rfl⟩
theorem r_12_fact_95 : RB M_X12_fact 95 .goto 99 98 := ⟨4, by decide +kernel, rfl, rfl⟩
theorem r_12_fact_54 : RC M_X12_fact 54 (-2) 56 := ⟨⟨by decide, by decide⟩, Or.inr (Or.inl ⟨by decide +kernel, by decide, rfl⟩)⟩
theorem r_12_fact_56 : RW M_X12_fact 56 .ireturn 57 1 := ⟨by decide +kernel, rfl⟩
theorem r_12_fact_32 : RA M_X12_fact 32 0 33 := Or.inl ⟨0, by decide +kernel, rfl, rfl⟩
theorem r_12_fact_33 : RG M_X12_fact 33 12 8 36 := ⟨28, _, by decide +kernel, rfl, by decide, wd_f12_28, rfl, rfl⟩
theorem r_12_fact_36 : RL M_X12_fact 36 1 37 := Or.inl ⟨1, by decide +kernel, rfl, rfl⟩
theorem r_12_fact_37 : RW M_X12_fact 37 .iaload 38 1 := ⟨by decide +kernel, rfl⟩
theorem r_12_fact_38 : RB M_X12_fact 38 (.ifCond .eq) 44 41 := ⟨6, by decide +kernel, rfl, rfl⟩
theorem r_12_fact_41 : RC M_X12_fact 41 (-3) 43 := ⟨⟨by decide, by decide⟩, Or.inr (Or.inl ⟨by decide +kernel, by decide, rfl⟩)⟩
theorem r_12_fact_43 : RW M_X12_fact 43 .ireturn 44 1 := ⟨by decide +kernel, rfl⟩
theorem r_9_addLetter_0 : RA M_X9_addLetter 0 0 1 := Or.inl ⟨0, by decide +kernel, rfl, rfl⟩
theorem r_9_addLetter_1 : RG M_X9_addLetter 1 9 1 4 := ⟨72, _, by decide +kernel, rfl, by decide, wd_f9_72, rfl, rfl⟩
theorem r_9_addLetter_4 : RC M_X9_addLetter 4 60 6 := ⟨⟨by decide, by decide⟩, Or.inr (Or.inl ⟨by decide +kernel, by decide, rfl⟩)⟩
theorem r_9_addLetter_6 : RB M_X9_addLetter 6 (.if_icmp .lt) 12 9 := ⟨6, by decide +kernel, rfl, rfl⟩
theorem r_9_addLetter_12 : RA M_X9_addLetter 12 0 13 := Or.inl ⟨0, by decide +kernel, rfl, rfl⟩
theorem r_9_addLetter_13 : RA M_X9_addLetter 13 0 14 := Or.inl ⟨0, by decide +kernel, rfl, rfl⟩
theorem r_9_addLetter_14 : RG M_X9_addLetter 14 9 3 17 := ⟨43, _, by decide +kernel, rfl, by decide, wd_f9_43, rfl, rfl⟩
theorem r_9_addLetter_17 : RG M_X9_addLetter 17 1 2 20 := ⟨68, _, by decide +kernel, rfl, by decide, wd_f9_68, rfl, rfl⟩
theorem r_9_addLetter_20 : RP M_X9_addLetter 20 9 9 23 := ⟨27, _, by decide +kernel, rfl, by decide, wd_f9_27, rfl, Or.inl rfl, rfl⟩
theorem r_9_addLetter_23 : RC M_X9_addLetter 23 0 24 := ⟨⟨by decide, by decide⟩, Or.inl ⟨by decide +kernel, rfl⟩⟩
theorem r_9_addLetter_24 : RS M_X9_addLetter 24 1 25 := ⟨by decide, Or.inl ⟨1, by decide +kernel, rfl, rfl⟩⟩
theorem r_9_addLetter_25 : RL M_X9_addLetter 25 1 26 := Or.inl ⟨1, by decide +kernel, rfl, rfl⟩
theorem r_9_addLetter_26 : RA M_X9_addLetter 26 0 27 := Or.inl ⟨0, by decide +kernel, rfl, rfl⟩
theorem r_9_addLetter_27 : RG M_X9_addLetter 27 9 0 30 := ⟨62, _, by decide +kernel, rfl, by decide, wd_f9_62, rfl, rfl⟩
theorem r_9_addLetter_30 : RB M_X9_addLetter 30 (.if_icmp .ge) 66 33 := ⟨36, by decide +kernel, rfl, rfl⟩
theorem r_9_addLetter_66 : RA M_X9_addLetter 66 0 67 := Or.inl ⟨0, by decide +kernel, rfl, rfl⟩
theorem r_9_addLetter_67 : RW M_X9_addLetter 67 .dup 68 1 := ⟨by decide +kernel, rfl⟩
theorem r_9_addLetter_68 : RG M_X9_addLetter 68 9 1 71 := ⟨72, _, by decide +kernel, rfl, by decide, wd_f9_72, rfl, rfl⟩
theorem r_9_addLetter_71 : RC M_X9_addLetter 71 1 72 := ⟨⟨by decide, by decide⟩, Or.inl ⟨by decide +kernel, rfl⟩⟩
theorem r_9_addLetter_72 : RW M_X9_addLetter 72 .iadd 73 1 := ⟨by decide +kernel, rfl⟩
theorem r_9_addLetter_73 : RP M_X9_addLetter 73 9 1 76 := ⟨72, _, by decide +kernel, rfl, by decide, wd_f9_72, rfl, Or.inl rfl, rfl⟩
theorem r_9_addLetter_76 : RA M_X9_addLetter 76 0 77 := Or.inl ⟨0, by decide +kernel, rfl, rfl⟩
theorem r_9_addLetter_77 : RG M_X9_addLetter 77 9 1 80 := ⟨72, _, by decide +kernel, rfl, by decide, wd_f9_72, rfl, rfl⟩
theorem r_9_addLetter_80 : RW M_X9_addLetter 80 .ireturn 81 1 := ⟨by decide +kernel, rfl⟩
theorem r_9_addLetter_33 : RA M_X9_addLetter 33 0 34 := Or.inl ⟨0, by decide +kernel, rfl, rfl⟩
theorem r_9_addLetter_34 : RG M_X9_addLetter 34 9 8 37 := ⟨24, _, by decide +kernel, rfl, by decide, wd_f9_24, rfl, rfl⟩
theorem r_9_addLetter_37 : RL M_X9_addLetter 37 1 38 := Or.inl ⟨1, by decide +kernel, rfl, rfl⟩
theorem r_9_addLetter_38 : RW M_X9_addLetter 38 .iaload 39 1 := ⟨by decide +kernel, rfl⟩
theorem r_9_addLetter_39 : RC M_X9_addLetter 39 1000000000 41 := ⟨⟨by decide, by decide⟩, Or.inr (Or.inr (Or.inr (Or.inl ⟨71, by decide +kernel, wd_c9_71, rfl⟩)))⟩
theorem r_9_addLetter_41 : RB M_X9_addLetter 41 (.if_icmp .ne) 60 44 := ⟨19, by decide +kernel, rfl, rfl⟩
theorem r_9_addLetter_60 : RI M_X9_addLetter 60 1 1 63 := ⟨by decide, by decide +kernel, rfl⟩
theorem r_9_addLetter_63 : RB M_X9_addLetter 63 .goto 25 66 := ⟨(-38), by decide +kernel, rfl, rfl⟩
theorem r_9_addLetter_44 : RA M_X9_addLetter 44 0 45 := Or.inl ⟨0, by decide +kernel, rfl, rfl⟩
theorem r_9_addLetter_45 : RG M_X9_addLetter 45 9 8 48 := ⟨24, _, by decide +kernel, rfl, by decide, wd_f9_24, rfl, rfl⟩
theorem r_9_addLetter_48 : RL M_X9_addLetter 48 1 49 := Or.inl ⟨1, by decide +kernel, rfl, rfl⟩
theorem r_9_addLetter_49 : RA M_X9_addLetter 49 0 50 := Or.inl ⟨0, by decide +kernel, rfl, rfl⟩
theorem r_9_addLetter_50 : RG M_X9_addLetter 50 9 3 53 := ⟨43, _, by decide +kernel, rfl, by decide, wd_f9_43, rfl, rfl⟩
theorem r_9_addLetter_53 : RG M_X9_addLetter 53 1 2 56 := ⟨68, _, by decide +kernel, rfl, by decide, wd_f9_68, rfl, rfl⟩
theorem r_9_addLetter_56 : RC M_X9_addLetter 56 7 58 := ⟨⟨by decide, by decide⟩, Or.inr (Or.inl ⟨by decide +kernel, by decide, rfl⟩)⟩
theorem r_9_addLetter_58 : RW M_X9_addLetter 58 .iadd 59 1 := ⟨by decide +kernel, rfl⟩
theorem r_9_addLetter_59 : RW M_X9_addLetter 59 .iastore 60 1 := ⟨by decide +kernel, rfl⟩
theorem r_9_addLetter_9 : RC M_X9_addLetter 9 (-2) 11 := ⟨⟨by decide, by decide⟩, Or.inr (Or.inl ⟨by decide +kernel, by decide, rfl⟩)⟩
theorem r_9_addLetter_11 : RW M_X9_addLetter 11 .ireturn 12 1 := ⟨by decide +kernel, rfl⟩
theorem r_12_letter_0 : RA M_X12_letter 0 0 1 := Or.inl ⟨0, by decide +kernel, rfl, rfl⟩
theorem r_12_letter_1 : RG M_X12_letter 1 12 29 4 := ⟨296, _, by decide +kernel, rfl, by decide, wd_f12_296, rfl, rfl⟩
theorem r_12_letter_4 : RC M_X12_letter 4 60 6 := ⟨⟨by decide, by decide⟩, Or.inr (Or.inl ⟨by decide +kernel, by decide, rfl⟩)⟩
theorem r_12_letter_6 : RB M_X12_letter 6 (.if_icmp .ne) 12 9 := ⟨6, by decide +kernel, rfl, rfl⟩
theorem r_12_letter_12 : RA M_X12_letter 12 0 13 := Or.inl ⟨0, by decide +kernel, rfl, rfl⟩
theorem r_12_letter_13 : RG M_X12_letter 13 12 28 16 := ⟨79, _, by decide +kernel, rfl, by decide, wd_f12_79, rfl, rfl⟩
theorem r_12_letter_16 : RA M_X12_letter 16 0 17 := Or.inl ⟨0, by decide +kernel, rfl, rfl⟩
theorem r_12_letter_17 : RG M_X12_letter 17 12 29 20 := ⟨296, _, by decide +kernel, rfl, by decide, wd_f12_296, rfl, rfl⟩
theorem r_12_letter_20 : RA M_X12_letter 20 0 21 := Or.inl ⟨0, by decide +kernel, rfl, rfl⟩
theorem r_12_letter_21 : RG M_X12_letter 21 12 0 24 := ⟨268, _, by decide +kernel, rfl, by decide, wd_f12_268, rfl, rfl⟩
theorem r_12_letter_24 : RW M_X12_letter 24 .iastore 25 1 := ⟨by decide +kernel, rfl⟩
theorem r_12_letter_25 : RA M_X12_letter 25 0 26 := Or.inl ⟨0, by decide +kernel, rfl, rfl⟩
theorem r_12_letter_26 : RW M_X12_letter 26 .dup 27 1 := ⟨by decide +kernel, rfl⟩
theorem r_12_letter_27 : RG M_X12_letter 27 12 29 30 := ⟨296, _, by decide +kernel, rfl, by decide, wd_f12_296, rfl, rfl⟩
theorem r_12_letter_30 : RC M_X12_letter 30 1 31 := ⟨⟨by decide, by decide⟩, Or.inl ⟨by decide +kernel, rfl⟩⟩
theorem r_12_letter_31 : RW M_X12_letter 31 .iadd 32 1 := ⟨by decide +kernel, rfl⟩
theorem r_12_letter_32 : RP M_X12_letter 32 12 29 35 := ⟨296, _, by decide +kernel, rfl, by decide, wd_f12_296, rfl, Or.inl rfl, rfl⟩
theorem r_12_letter_35 : RA M_X12_letter 35 0 36 := Or.inl ⟨0, by decide +kernel, rfl, rfl⟩
theorem r_12_letter_36 : RG M_X12_letter 36 12 29 39 := ⟨296, _, by decide +kernel, rfl, by decide, wd_f12_296, rfl, rfl⟩
theorem r_12_letter_39 : RW M_X12_letter 39 .ireturn 40 1 := ⟨by decide +kernel, rfl⟩
theorem r_12_letter_9 : RC M_X12_letter 9 (-2) 11 := ⟨⟨by decide, by decide⟩, Or.inr (Or.inl ⟨by decide +kernel, by decide, rfl⟩)⟩
theorem r_12_letter_11 : RW M_X12_letter 11 .ireturn 12 1 := ⟨by decide +kernel, rfl⟩
theorem r_9_valueKnown_34 : RS M_X9_valueKnown 34 5 36 := ⟨by decide, Or.inr ⟨by decide +kernel, rfl⟩⟩
theorem r_9_valueKnown_36 : RA M_X9_valueKnown 36 0 37 := Or.inl ⟨0, by decide +kernel, rfl, rfl⟩
theorem r_9_valueKnown_37 : RG M_X9_valueKnown 37 9 0 40 := ⟨62, _, by decide +kernel, rfl, by decide, wd_f9_62, rfl, rfl⟩
theorem r_9_valueKnown_40 : RC M_X9_valueKnown 40 1 41 := ⟨⟨by decide, by decide⟩, Or.inl ⟨by decide +kernel, rfl⟩⟩
theorem r_9_valueKnown_41 : RW M_X9_valueKnown 41 .isub 42 1 := ⟨by decide +kernel, rfl⟩
theorem r_9_valueKnown_42 : RS M_X9_valueKnown 42 6 44 := ⟨by decide, Or.inr ⟨by decide +kernel, rfl⟩⟩
theorem r_9_valueKnown_44 : RL M_X9_valueKnown 44 6 46 := Or.inr ⟨by decide +kernel, rfl⟩
theorem r_9_valueKnown_46 : RB M_X9_valueKnown 46 (.ifCond .lt) 119 49 := ⟨73, by decide +kernel, rfl, rfl⟩
theorem r_9_valueKnown_119 : RC M_X9_valueKnown 119 0 120 := ⟨⟨by decide, by decide⟩, Or.inl ⟨by decide +kernel, rfl⟩⟩
theorem r_9_valueKnown_120 : RW M_X9_valueKnown 120 .ireturn 121 1 := ⟨by decide +kernel, rfl⟩
theorem r_9_valueKnown_49 : RA M_X9_valueKnown 49 0 50 := Or.inl ⟨0, by decide +kernel, rfl, rfl⟩
theorem r_9_valueKnown_50 : RG M_X9_valueKnown 50 9 4 53 := ⟨11, _, by decide +kernel, rfl, by decide, wd_f9_11, rfl, rfl⟩
theorem r_9_valueKnown_53 : RL M_X9_valueKnown 53 6 55 := Or.inr ⟨by decide +kernel, rfl⟩
theorem r_9_valueKnown_55 : RW M_X9_valueKnown 55 .iaload 56 1 := ⟨by decide +kernel, rfl⟩
theorem r_9_valueKnown_56 : RA M_X9_valueKnown 56 2 57 := Or.inl ⟨2, by decide +kernel, rfl, rfl⟩
theorem r_9_valueKnown_57 : RG M_X9_valueKnown 57 3 0 60 := ⟨89, _, by decide +kernel, rfl, by decide, wd_f9_89, rfl, rfl⟩
theorem r_9_valueKnown_60 : RB M_X9_valueKnown 60 (.if_icmp .ne) 113 63 := ⟨53, by decide +kernel, rfl, rfl⟩
theorem r_9_valueKnown_113 : RI M_X9_valueKnown 113 6 (-1) 116 := ⟨by decide, by decide +kernel, rfl⟩
theorem r_9_valueKnown_116 : RB M_X9_valueKnown 116 .goto 44 119 := ⟨(-72), by decide +kernel, rfl, rfl⟩
theorem r_9_valueKnown_63 : RA M_X9_valueKnown 63 0 64 := Or.inl ⟨0, by decide +kernel, rfl, rfl⟩
theorem r_9_valueKnown_64 : RG M_X9_valueKnown 64 9 5 67 := ⟨15, _, by decide +kernel, rfl, by decide, wd_f9_15, rfl, rfl⟩
theorem r_9_valueKnown_67 : RL M_X9_valueKnown 67 6 69 := Or.inr ⟨by decide +kernel, rfl⟩
theorem r_9_valueKnown_69 : RW M_X9_valueKnown 69 .iaload 70 1 := ⟨by decide +kernel, rfl⟩
theorem r_9_valueKnown_70 : RL M_X9_valueKnown 70 3 71 := Or.inl ⟨3, by decide +kernel, rfl, rfl⟩
theorem r_9_valueKnown_71 : RB M_X9_valueKnown 71 (.if_icmp .ne) 113 74 := ⟨42, by decide +kernel, rfl, rfl⟩
theorem r_9_valueKnown_74 : RL M_X9_valueKnown 74 5 76 := Or.inr ⟨by decide +kernel, rfl⟩
theorem r_9_valueKnown_76 : RB M_X9_valueKnown 76 (.ifCond .eq) 89 79 := ⟨13, by decide +kernel, rfl, rfl⟩
theorem r_9_valueKnown_89 : RA M_X9_valueKnown 89 0 90 := Or.inl ⟨0, by decide +kernel, rfl, rfl⟩
theorem r_9_valueKnown_90 : RG M_X9_valueKnown 90 9 8 93 := ⟨24, _, by decide +kernel, rfl, by decide, wd_f9_24, rfl, rfl⟩
theorem r_9_valueKnown_93 : RL M_X9_valueKnown 93 6 95 := Or.inr ⟨by decide +kernel, rfl⟩
theorem r_9_valueKnown_95 : RW M_X9_valueKnown 95 .iaload 96 1 := ⟨by decide +kernel, rfl⟩
theorem r_9_valueKnown_96 : RS M_X9_valueKnown 96 7 98 := ⟨by decide, Or.inr ⟨by decide +kernel, rfl⟩⟩
theorem r_9_valueKnown_98 : RL M_X9_valueKnown 98 7 100 := Or.inr ⟨by decide +kernel, rfl⟩
theorem r_9_valueKnown_100 : RL M_X9_valueKnown 100 4 102 := Or.inr ⟨by decide +kernel, rfl⟩
theorem r_9_valueKnown_102 : RB M_X9_valueKnown 102 (.if_icmp .gt) 113 105 := ⟨11, by decide +kernel, rfl, rfl⟩
theorem r_9_valueKnown_105 : RA M_X9_valueKnown 105 0 106 := Or.inl ⟨0, by decide +kernel, rfl, rfl⟩
theorem r_9_valueKnown_106 : RG M_X9_valueKnown 106 9 6 109 := ⟨18, _, by decide +kernel, rfl, by decide, wd_f9_18, rfl, rfl⟩
theorem r_9_valueKnown_109 : RL M_X9_valueKnown 109 6 111 := Or.inr ⟨by decide +kernel, rfl⟩
theorem r_9_valueKnown_111 : RW M_X9_valueKnown 111 .iaload 112 1 := ⟨by decide +kernel, rfl⟩
theorem r_9_valueKnown_112 : RW M_X9_valueKnown 112 .ireturn 113 1 := ⟨by decide +kernel, rfl⟩
theorem r_9_valueKnown_79 : RA M_X9_valueKnown 79 0 80 := Or.inl ⟨0, by decide +kernel, rfl, rfl⟩
theorem r_9_valueKnown_80 : RG M_X9_valueKnown 80 9 7 83 := ⟨21, _, by decide +kernel, rfl, by decide, wd_f9_21, rfl, rfl⟩
theorem r_9_valueKnown_83 : RL M_X9_valueKnown 83 6 85 := Or.inr ⟨by decide +kernel, rfl⟩
theorem r_9_valueKnown_85 : RW M_X9_valueKnown 85 .iaload 86 1 := ⟨by decide +kernel, rfl⟩
theorem r_9_valueKnown_86 : RB M_X9_valueKnown 86 .goto 96 89 := ⟨10, by decide +kernel, rfl, rfl⟩
theorem r_9_valueKnown_0 : RL M_X9_valueKnown 0 3 1 := Or.inl ⟨3, by decide +kernel, rfl, rfl⟩
theorem r_9_valueKnown_1 : RC M_X9_valueKnown 1 2 2 := ⟨⟨by decide, by decide⟩, Or.inl ⟨by decide +kernel, rfl⟩⟩
theorem r_9_valueKnown_2 : RB M_X9_valueKnown 2 (.if_icmp .ne) 21 5 := ⟨19, by decide +kernel, rfl, rfl⟩
theorem r_9_valueKnown_21 : RL M_X9_valueKnown 21 1 22 := Or.inl ⟨1, by decide +kernel, rfl, rfl⟩
theorem r_9_valueKnown_22 : RA M_X9_valueKnown 22 2 23 := Or.inl ⟨2, by decide +kernel, rfl, rfl⟩
theorem r_9_valueKnown_23 : RG M_X9_valueKnown 23 3 2 26 := ⟨86, _, by decide +kernel, rfl, by decide, wd_f9_86, rfl, rfl⟩
theorem r_9_valueKnown_26 : RB M_X9_valueKnown 26 (.if_icmp .ne) 33 29 := ⟨7, by decide +kernel, rfl, rfl⟩
theorem r_9_valueKnown_33 : RC M_X9_valueKnown 33 0 34 := ⟨⟨by decide, by decide⟩, Or.inl ⟨by decide +kernel, rfl⟩⟩
theorem r_9_valueKnown_29 : RC M_X9_valueKnown 29 1 30 := ⟨⟨by decide, by decide⟩, Or.inl ⟨by decide +kernel, rfl⟩⟩
theorem r_9_valueKnown_30 : RB M_X9_valueKnown 30 .goto 34 33 := ⟨4, by decide +kernel, rfl, rfl⟩
theorem r_9_valueKnown_5 : RL M_X9_valueKnown 5 1 6 := Or.inl ⟨1, by decide +kernel, rfl, rfl⟩
theorem r_9_valueKnown_6 : RA M_X9_valueKnown 6 2 7 := Or.inl ⟨2, by decide +kernel, rfl, rfl⟩
theorem r_9_valueKnown_7 : RG M_X9_valueKnown 7 3 2 10 := ⟨86, _, by decide +kernel, rfl, by decide, wd_f9_86, rfl, rfl⟩
theorem r_9_valueKnown_10 : RB M_X9_valueKnown 10 (.if_icmp .eq) 17 13 := ⟨7, by decide +kernel, rfl, rfl⟩
theorem r_9_valueKnown_17 : RC M_X9_valueKnown 17 0 18 := ⟨⟨by decide, by decide⟩, Or.inl ⟨by decide +kernel, rfl⟩⟩
theorem r_9_valueKnown_18 : RB M_X9_valueKnown 18 .goto 34 21 := ⟨16, by decide +kernel, rfl, rfl⟩
theorem r_9_valueKnown_13 : RC M_X9_valueKnown 13 1 14 := ⟨⟨by decide, by decide⟩, Or.inl ⟨by decide +kernel, rfl⟩⟩
theorem r_9_valueKnown_14 : RB M_X9_valueKnown 14 .goto 34 17 := ⟨20, by decide +kernel, rfl, rfl⟩
theorem r_9_tellKnown_0 : RA M_X9_tellKnown 0 0 1 := Or.inl ⟨0, by decide +kernel, rfl, rfl⟩
theorem r_9_tellKnown_1 : RG M_X9_tellKnown 1 9 3 4 := ⟨43, _, by decide +kernel, rfl, by decide, wd_f9_43, rfl, rfl⟩
theorem r_9_tellKnown_4 : RL M_X9_tellKnown 4 2 5 := Or.inl ⟨2, by decide +kernel, rfl, rfl⟩
theorem r_9_tellKnown_5 : RKv M_X9_tellKnown M_X1_get 5 1 1 8 := ⟨47, by decide +kernel, wd_m9_47, ok_M_X1_get, wd_s1_get, rfl⟩
theorem r_9_tellKnown_8 : RT M_X9_tellKnown 8 5 10 := ⟨by decide, Or.inr ⟨by decide +kernel, rfl⟩⟩
theorem r_9_tellKnown_10 : RL M_X9_tellKnown 10 1 11 := Or.inl ⟨1, by decide +kernel, rfl, rfl⟩
theorem r_9_tellKnown_11 : RKs M_X9_tellKnown M_X11_isSide 11 1 14 := ⟨75, by decide +kernel, Or.inr (by decide +kernel), ok_M_X11_isSide, rfl⟩
theorem r_9_tellKnown_14 : RB M_X9_tellKnown 14 (.ifCond .eq) 39 17 := ⟨25, by decide +kernel, rfl, rfl⟩
theorem r_9_tellKnown_39 : RC M_X9_tellKnown 39 (-1) 40 := ⟨⟨by decide, by decide⟩, Or.inl ⟨by decide +kernel, rfl⟩⟩
theorem r_9_tellKnown_40 : RW M_X9_tellKnown 40 .ireturn 41 1 := ⟨by decide +kernel, rfl⟩
theorem r_9_tellKnown_17 : RA M_X9_tellKnown 17 5 19 := Or.inr ⟨by decide +kernel, rfl⟩
theorem r_9_tellKnown_19 : RB M_X9_tellKnown 19 .ifnull 39 22 := ⟨20, by decide +kernel, rfl, rfl⟩
theorem r_9_tellKnown_22 : RL M_X9_tellKnown 22 3 23 := Or.inl ⟨3, by decide +kernel, rfl, rfl⟩
theorem r_9_tellKnown_23 : RC M_X9_tellKnown 23 0 24 := ⟨⟨by decide, by decide⟩, Or.inl ⟨by decide +kernel, rfl⟩⟩
theorem r_9_tellKnown_24 : RC M_X9_tellKnown 24 2 25 := ⟨⟨by decide, by decide⟩, Or.inl ⟨by decide +kernel, rfl⟩⟩
theorem r_9_tellKnown_25 : RKs M_X9_tellKnown M_X11_within 25 3 28 := ⟨53, by decide +kernel, Or.inr (by decide +kernel), ok_M_X11_within, rfl⟩
theorem r_9_tellKnown_28 : RB M_X9_tellKnown 28 (.ifCond .eq) 39 31 := ⟨11, by decide +kernel, rfl, rfl⟩
theorem r_9_tellKnown_31 : RL M_X9_tellKnown 31 4 33 := Or.inr ⟨by decide +kernel, rfl⟩
theorem r_9_tellKnown_33 : RKs M_X9_tellKnown M_X11_isDay 33 1 36 := ⟨79, by decide +kernel, Or.inr (by decide +kernel), ok_M_X11_isDay, rfl⟩
theorem r_9_tellKnown_36 : RB M_X9_tellKnown 36 (.ifCond .ne) 41 39 := ⟨5, by decide +kernel, rfl, rfl⟩
theorem r_9_tellKnown_41 : RA M_X9_tellKnown 41 0 42 := Or.inl ⟨0, by decide +kernel, rfl, rfl⟩
theorem r_9_tellKnown_42 : RL M_X9_tellKnown 42 1 43 := Or.inl ⟨1, by decide +kernel, rfl, rfl⟩
theorem r_9_tellKnown_43 : RA M_X9_tellKnown 43 5 45 := Or.inr ⟨by decide +kernel, rfl⟩
theorem r_9_tellKnown_45 : RL M_X9_tellKnown 45 3 46 := Or.inl ⟨3, by decide +kernel, rfl, rfl⟩
theorem r_9_tellKnown_46 : RL M_X9_tellKnown 46 4 48 := Or.inr ⟨by decide +kernel, rfl⟩
theorem r_9_tellKnown_48 : RKv M_X9_tellKnown M_X9_valueKnown 48 4 9 51 := ⟨82, by decide +kernel, wd_m9_82, ok_M_X9_valueKnown, wd_s9_valueKnown, rfl⟩
theorem r_9_tellKnown_51 : RW M_X9_tellKnown 51 .ireturn 52 1 := ⟨by decide +kernel, rfl⟩
theorem r_12_knownFrom_0 : RA M_X12_knownFrom 0 0 1 := Or.inl ⟨0, by decide +kernel, rfl, rfl⟩
theorem r_12_knownFrom_1 : RG M_X12_knownFrom 1 12 7 4 := ⟨25, _, by decide +kernel, rfl, by decide, wd_f12_25, rfl, rfl⟩
theorem r_12_knownFrom_4 : RA M_X12_knownFrom 4 0 5 := Or.inl ⟨0, by decide +kernel, rfl, rfl⟩
theorem r_12_knownFrom_5 : RG M_X12_knownFrom 5 12 23 8 := ⟨67, _, by decide +kernel, rfl, by decide, wd_f12_67, rfl, rfl⟩
theorem r_12_knownFrom_8 : RL M_X12_knownFrom 8 1 9 := Or.inl ⟨1, by decide +kernel, rfl, rfl⟩
theorem r_12_knownFrom_9 : RW M_X12_knownFrom 9 .iaload 10 1 := ⟨by decide +kernel, rfl⟩
theorem r_12_knownFrom_10 : RW M_X12_knownFrom 10 .iaload 11 1 := ⟨by decide +kernel, rfl⟩
theorem r_12_knownFrom_11 : RL M_X12_knownFrom 11 2 12 := Or.inl ⟨2, by decide +kernel, rfl, rfl⟩
theorem r_12_knownFrom_12 : RB M_X12_knownFrom 12 (.if_icmp .ne) 19 15 := ⟨7, by decide +kernel, rfl, rfl⟩
theorem r_12_knownFrom_19 : RC M_X12_knownFrom 19 0 20 := ⟨⟨by decide, by decide⟩, Or.inl ⟨by decide +kernel, rfl⟩⟩
theorem r_12_knownFrom_20 : RA M_X12_knownFrom 20 0 21 := Or.inl ⟨0, by decide +kernel, rfl, rfl⟩
theorem r_12_knownFrom_21 : RG M_X12_knownFrom 21 12 24 24 := ⟨70, _, by decide +kernel, rfl, by decide, wd_f12_70, rfl, rfl⟩
theorem r_12_knownFrom_24 : RL M_X12_knownFrom 24 1 25 := Or.inl ⟨1, by decide +kernel, rfl, rfl⟩
theorem r_12_knownFrom_25 : RW M_X12_knownFrom 25 .iaload 26 1 := ⟨by decide +kernel, rfl⟩
theorem r_12_knownFrom_26 : RC M_X12_knownFrom 26 2 27 := ⟨⟨by decide, by decide⟩, Or.inl ⟨by decide +kernel, rfl⟩⟩
theorem r_12_knownFrom_27 : RB M_X12_knownFrom 27 (.if_icmp .eq) 34 30 := ⟨7, by decide +kernel, rfl, rfl⟩
theorem r_12_knownFrom_34 : RC M_X12_knownFrom 34 0 35 := ⟨⟨by decide, by decide⟩, Or.inl ⟨by decide +kernel, rfl⟩⟩
theorem r_12_knownFrom_35 : RB M_X12_knownFrom 35 (.if_icmp .ne) 42 38 := ⟨7, by decide +kernel, rfl, rfl⟩
theorem r_12_knownFrom_42 : RC M_X12_knownFrom 42 0 43 := ⟨⟨by decide, by decide⟩, Or.inl ⟨by decide +kernel, rfl⟩⟩
theorem r_12_knownFrom_43 : RS M_X12_knownFrom 43 3 44 := ⟨by decide, Or.inl ⟨3, by decide +kernel, rfl, rfl⟩⟩
theorem r_12_knownFrom_44 : RL M_X12_knownFrom 44 3 45 := Or.inl ⟨3, by decide +kernel, rfl, rfl⟩
theorem r_12_knownFrom_45 : RB M_X12_knownFrom 45 (.ifCond .eq) 55 48 := ⟨10, by decide +kernel, rfl, rfl⟩
theorem r_12_knownFrom_55 : RC M_X12_knownFrom 55 100000 58 := ⟨⟨by decide, by decide⟩, Or.inr (Or.inr (Or.inr (Or.inr ⟨260, by decide +kernel, wd_c12_260, rfl⟩)))⟩
theorem r_12_knownFrom_58 : RS M_X12_knownFrom 58 4 60 := ⟨by decide, Or.inr ⟨by decide +kernel, rfl⟩⟩
theorem r_12_knownFrom_60 : RA M_X12_knownFrom 60 0 61 := Or.inl ⟨0, by decide +kernel, rfl, rfl⟩
theorem r_12_knownFrom_61 : RG M_X12_knownFrom 61 12 29 64 := ⟨296, _, by decide +kernel, rfl, by decide, wd_f12_296, rfl, rfl⟩
theorem r_12_knownFrom_64 : RC M_X12_knownFrom 64 1 65 := ⟨⟨by decide, by decide⟩, Or.inl ⟨by decide +kernel, rfl⟩⟩
theorem r_12_knownFrom_65 : RW M_X12_knownFrom 65 .isub 66 1 := ⟨by decide +kernel, rfl⟩
theorem r_12_knownFrom_66 : RS M_X12_knownFrom 66 5 68 := ⟨by decide, Or.inr ⟨by decide +kernel, rfl⟩⟩
theorem r_12_knownFrom_68 : RL M_X12_knownFrom 68 5 70 := Or.inr ⟨by decide +kernel, rfl⟩
theorem r_12_knownFrom_70 : RB M_X12_knownFrom 70 (.ifCond .lt) 112 73 := ⟨42, by decide +kernel, rfl, rfl⟩
theorem r_12_knownFrom_112 : RL M_X12_knownFrom 112 4 114 := Or.inr ⟨by decide +kernel, rfl⟩
theorem r_12_knownFrom_114 : RW M_X12_knownFrom 114 .ireturn 115 1 := ⟨by decide +kernel, rfl⟩
theorem r_12_knownFrom_73 : RA M_X12_knownFrom 73 0 74 := Or.inl ⟨0, by decide +kernel, rfl, rfl⟩
theorem r_12_knownFrom_74 : RG M_X12_knownFrom 74 12 28 77 := ⟨79, _, by decide +kernel, rfl, by decide, wd_f12_79, rfl, rfl⟩
theorem r_12_knownFrom_77 : RL M_X12_knownFrom 77 5 79 := Or.inr ⟨by decide +kernel, rfl⟩
theorem r_12_knownFrom_79 : RW M_X12_knownFrom 79 .iaload 80 1 := ⟨by decide +kernel, rfl⟩
theorem r_12_knownFrom_80 : RA M_X12_knownFrom 80 0 81 := Or.inl ⟨0, by decide +kernel, rfl, rfl⟩
theorem r_12_knownFrom_81 : RG M_X12_knownFrom 81 12 26 84 := ⟨76, _, by decide +kernel, rfl, by decide, wd_f12_76, rfl, rfl⟩
theorem r_12_knownFrom_84 : RL M_X12_knownFrom 84 1 85 := Or.inl ⟨1, by decide +kernel, rfl, rfl⟩
theorem r_12_knownFrom_85 : RW M_X12_knownFrom 85 .iaload 86 1 := ⟨by decide +kernel, rfl⟩
theorem r_12_knownFrom_86 : RB M_X12_knownFrom 86 (.if_icmp .lt) 102 89 := ⟨16, by decide +kernel, rfl, rfl⟩
theorem r_12_knownFrom_102 : RL M_X12_knownFrom 102 4 104 := Or.inr ⟨by decide +kernel, rfl⟩
theorem r_12_knownFrom_104 : RS M_X12_knownFrom 104 4 106 := ⟨by decide, Or.inr ⟨by decide +kernel, rfl⟩⟩
theorem r_12_knownFrom_106 : RI M_X12_knownFrom 106 5 (-1) 109 := ⟨by decide, by decide +kernel, rfl⟩
theorem r_12_knownFrom_109 : RB M_X12_knownFrom 109 .goto 68 112 := ⟨(-41), by decide +kernel, rfl, rfl⟩
theorem r_12_knownFrom_89 : RA M_X12_knownFrom 89 0 90 := Or.inl ⟨0, by decide +kernel, rfl, rfl⟩
theorem r_12_knownFrom_90 : RG M_X12_knownFrom 90 12 28 93 := ⟨79, _, by decide +kernel, rfl, by decide, wd_f12_79, rfl, rfl⟩
theorem r_12_knownFrom_93 : RL M_X12_knownFrom 93 5 95 := Or.inr ⟨by decide +kernel, rfl⟩
theorem r_12_knownFrom_95 : RW M_X12_knownFrom 95 .iaload 96 1 := ⟨by decide +kernel, rfl⟩
theorem r_12_knownFrom_96 : RC M_X12_knownFrom 96 7 98 := ⟨⟨by decide, by decide⟩, Or.inr (Or.inl ⟨by decide +kernel, by decide, rfl⟩)⟩
theorem r_12_knownFrom_98 : RW M_X12_knownFrom 98 .iadd 99 1 := ⟨by decide +kernel, rfl⟩
theorem r_12_knownFrom_99 : RB M_X12_knownFrom 99 .goto 104 102 := ⟨5, by decide +kernel, rfl, rfl⟩
theorem r_12_knownFrom_48 : RA M_X12_knownFrom 48 0 49 := Or.inl ⟨0, by decide +kernel, rfl, rfl⟩
theorem r_12_knownFrom_49 : RG M_X12_knownFrom 49 12 26 52 := ⟨76, _, by decide +kernel, rfl, by decide, wd_f12_76, rfl, rfl⟩
theorem r_12_knownFrom_52 : RL M_X12_knownFrom 52 1 53 := Or.inl ⟨1, by decide +kernel, rfl, rfl⟩
theorem r_12_knownFrom_53 : RW M_X12_knownFrom 53 .iaload 54 1 := ⟨by decide +kernel, rfl⟩
theorem r_12_knownFrom_54 : RW M_X12_knownFrom 54 .ireturn 55 1 := ⟨by decide +kernel, rfl⟩
theorem r_12_knownFrom_38 : RC M_X12_knownFrom 38 1 39 := ⟨⟨by decide, by decide⟩, Or.inl ⟨by decide +kernel, rfl⟩⟩
theorem r_12_knownFrom_39 : RB M_X12_knownFrom 39 .goto 43 42 := ⟨4, by decide +kernel, rfl, rfl⟩
theorem r_12_knownFrom_30 : RC M_X12_knownFrom 30 1 31 := ⟨⟨by decide, by decide⟩, Or.inl ⟨by decide +kernel, rfl⟩⟩
theorem r_12_knownFrom_31 : RB M_X12_knownFrom 31 .goto 35 34 := ⟨4, by decide +kernel, rfl, rfl⟩
theorem r_12_knownFrom_15 : RC M_X12_knownFrom 15 1 16 := ⟨⟨by decide, by decide⟩, Or.inl ⟨by decide +kernel, rfl⟩⟩
theorem r_12_knownFrom_16 : RB M_X12_knownFrom 16 .goto 20 19 := ⟨4, by decide +kernel, rfl, rfl⟩
theorem r_12_knownTo_0 : RC M_X12_knownTo 0 0 1 := ⟨⟨by decide, by decide⟩, Or.inl ⟨by decide +kernel, rfl⟩⟩
theorem r_12_knownTo_1 : RS M_X12_knownTo 1 5 3 := ⟨by decide, Or.inr ⟨by decide +kernel, rfl⟩⟩
theorem r_12_knownTo_3 : RC M_X12_knownTo 3 0 4 := ⟨⟨by decide, by decide⟩, Or.inl ⟨by decide +kernel, rfl⟩⟩
theorem r_12_knownTo_4 : RS M_X12_knownTo 4 6 6 := ⟨by decide, Or.inr ⟨by decide +kernel, rfl⟩⟩
theorem r_12_knownTo_6 : RL M_X12_knownTo 6 6 8 := Or.inr ⟨by decide +kernel, rfl⟩
theorem r_12_knownTo_8 : RA M_X12_knownTo 8 0 9 := Or.inl ⟨0, by decide +kernel, rfl, rfl⟩
theorem r_12_knownTo_9 : RG M_X12_knownTo 9 12 27 12 := ⟨293, _, by decide +kernel, rfl, by decide, wd_f12_293, rfl, rfl⟩
theorem r_12_knownTo_12 : RB M_X12_knownTo 12 (.if_icmp .ge) 69 15 := ⟨57, by decide +kernel, rfl, rfl⟩
theorem r_12_knownTo_69 : RL M_X12_knownTo 69 5 71 := Or.inr ⟨by decide +kernel, rfl⟩
theorem r_12_knownTo_71 : RW M_X12_knownTo 71 .ireturn 72 1 := ⟨by decide +kernel, rfl⟩
theorem r_12_knownTo_15 : RA M_X12_knownTo 15 0 16 := Or.inl ⟨0, by decide +kernel, rfl, rfl⟩
theorem r_12_knownTo_16 : RG M_X12_knownTo 16 12 23 19 := ⟨67, _, by decide +kernel, rfl, by decide, wd_f12_67, rfl, rfl⟩
theorem r_12_knownTo_19 : RL M_X12_knownTo 19 6 21 := Or.inr ⟨by decide +kernel, rfl⟩
theorem r_12_knownTo_21 : RW M_X12_knownTo 21 .iaload 22 1 := ⟨by decide +kernel, rfl⟩
theorem r_12_knownTo_22 : RL M_X12_knownTo 22 2 23 := Or.inl ⟨2, by decide +kernel, rfl, rfl⟩
theorem r_12_knownTo_23 : RB M_X12_knownTo 23 (.if_icmp .ne) 59 26 := ⟨36, by decide +kernel, rfl, rfl⟩
theorem r_12_knownTo_59 : RL M_X12_knownTo 59 5 61 := Or.inr ⟨by decide +kernel, rfl⟩
theorem r_12_knownTo_61 : RS M_X12_knownTo 61 5 63 := ⟨by decide, Or.inr ⟨by decide +kernel, rfl⟩⟩
theorem r_12_knownTo_63 : RI M_X12_knownTo 63 6 1 66 := ⟨by decide, by decide +kernel, rfl⟩
theorem r_12_knownTo_66 : RB M_X12_knownTo 66 .goto 6 69 := ⟨(-60), by decide +kernel, rfl, rfl⟩
theorem r_12_knownTo_26 : RA M_X12_knownTo 26 0 27 := Or.inl ⟨0, by decide +kernel, rfl, rfl⟩
theorem r_12_knownTo_27 : RG M_X12_knownTo 27 12 24 30 := ⟨70, _, by decide +kernel, rfl, by decide, wd_f12_70, rfl, rfl⟩
theorem r_12_knownTo_30 : RL M_X12_knownTo 30 6 32 := Or.inr ⟨by decide +kernel, rfl⟩
theorem r_12_knownTo_32 : RW M_X12_knownTo 32 .iaload 33 1 := ⟨by decide +kernel, rfl⟩
theorem r_12_knownTo_33 : RL M_X12_knownTo 33 3 34 := Or.inl ⟨3, by decide +kernel, rfl, rfl⟩
theorem r_12_knownTo_34 : RB M_X12_knownTo 34 (.if_icmp .ne) 59 37 := ⟨25, by decide +kernel, rfl, rfl⟩
theorem r_12_knownTo_37 : RA M_X12_knownTo 37 0 38 := Or.inl ⟨0, by decide +kernel, rfl, rfl⟩
theorem r_12_knownTo_38 : RL M_X12_knownTo 38 6 40 := Or.inr ⟨by decide +kernel, rfl⟩
theorem r_12_knownTo_40 : RL M_X12_knownTo 40 1 41 := Or.inl ⟨1, by decide +kernel, rfl, rfl⟩
theorem r_12_knownTo_41 : RKv M_X12_knownTo M_X12_knownFrom 41 2 12 44 := ⟨299, by decide +kernel, wd_m12_299, ok_M_X12_knownFrom, wd_s12_knownFrom, rfl⟩
theorem r_12_knownTo_44 : RL M_X12_knownTo 44 4 46 := Or.inr ⟨by decide +kernel, rfl⟩
theorem r_12_knownTo_46 : RB M_X12_knownTo 46 (.if_icmp .gt) 59 49 := ⟨13, by decide +kernel, rfl, rfl⟩
theorem r_12_knownTo_49 : RA M_X12_knownTo 49 0 50 := Or.inl ⟨0, by decide +kernel, rfl, rfl⟩
theorem r_12_knownTo_50 : RG M_X12_knownTo 50 12 25 53 := ⟨73, _, by decide +kernel, rfl, by decide, wd_f12_73, rfl, rfl⟩
theorem r_12_knownTo_53 : RL M_X12_knownTo 53 6 55 := Or.inr ⟨by decide +kernel, rfl⟩
theorem r_12_knownTo_55 : RW M_X12_knownTo 55 .iaload 56 1 := ⟨by decide +kernel, rfl⟩
theorem r_12_knownTo_56 : RB M_X12_knownTo 56 .goto 61 59 := ⟨5, by decide +kernel, rfl, rfl⟩
theorem r_12_known_0 : RL M_X12_known 0 1 1 := Or.inl ⟨1, by decide +kernel, rfl, rfl⟩
theorem r_12_known_1 : RKs M_X12_known M_X12_isSide 1 1 4 := ⟨254, by decide +kernel, Or.inl wd_m12_254, ok_M_X12_isSide, rfl⟩
theorem r_12_known_4 : RB M_X12_known 4 (.ifCond .eq) 44 7 := ⟨40, by decide +kernel, rfl, rfl⟩
theorem r_12_known_44 : RC M_X12_known 44 (-1) 45 := ⟨⟨by decide, by decide⟩, Or.inl ⟨by decide +kernel, rfl⟩⟩
theorem r_12_known_45 : RW M_X12_known 45 .ireturn 46 1 := ⟨by decide +kernel, rfl⟩
theorem r_12_known_7 : RA M_X12_known 7 0 8 := Or.inl ⟨0, by decide +kernel, rfl, rfl⟩
theorem r_12_known_8 : RL M_X12_known 8 2 9 := Or.inl ⟨2, by decide +kernel, rfl, rfl⟩
theorem r_12_known_9 : RKv M_X12_known M_X12_isPerson 9 1 12 12 := ⟨278, by decide +kernel, wd_m12_278, ok_M_X12_isPerson, wd_s12_isPerson, rfl⟩
theorem r_12_known_12 : RB M_X12_known 12 (.ifCond .eq) 44 15 := ⟨32, by decide +kernel, rfl, rfl⟩
theorem r_12_known_15 : RL M_X12_known 15 3 16 := Or.inl ⟨3, by decide +kernel, rfl, rfl⟩
theorem r_12_known_16 : RC M_X12_known 16 0 17 := ⟨⟨by decide, by decide⟩, Or.inl ⟨by decide +kernel, rfl⟩⟩
theorem r_12_known_17 : RC M_X12_known 17 2 18 := ⟨⟨by decide, by decide⟩, Or.inl ⟨by decide +kernel, rfl⟩⟩
theorem r_12_known_18 : RKs M_X12_known M_X12_within 18 3 21 := ⟨240, by decide +kernel, Or.inl wd_m12_240, ok_M_X12_within, rfl⟩
theorem r_12_known_21 : RB M_X12_known 21 (.ifCond .eq) 44 24 := ⟨23, by decide +kernel, rfl, rfl⟩
theorem r_12_known_24 : RL M_X12_known 24 4 26 := Or.inr ⟨by decide +kernel, rfl⟩
theorem r_12_known_26 : RKs M_X12_known M_X12_isDay 26 1 29 := ⟨302, by decide +kernel, Or.inl wd_m12_302, ok_M_X12_isDay, rfl⟩
theorem r_12_known_29 : RB M_X12_known 29 (.ifCond .eq) 44 32 := ⟨15, by decide +kernel, rfl, rfl⟩
theorem r_12_known_32 : RA M_X12_known 32 0 33 := Or.inl ⟨0, by decide +kernel, rfl, rfl⟩
theorem r_12_known_33 : RL M_X12_known 33 1 34 := Or.inl ⟨1, by decide +kernel, rfl, rfl⟩
theorem r_12_known_34 : RL M_X12_known 34 2 35 := Or.inl ⟨2, by decide +kernel, rfl, rfl⟩
theorem r_12_known_35 : RL M_X12_known 35 3 36 := Or.inl ⟨3, by decide +kernel, rfl, rfl⟩
theorem r_12_known_36 : RL M_X12_known 36 4 38 := Or.inr ⟨by decide +kernel, rfl⟩
theorem r_12_known_38 : RKv M_X12_known M_X12_knownTo 38 4 12 41 := ⟨305, by decide +kernel, wd_m12_305, ok_M_X12_knownTo, wd_s12_knownTo, rfl⟩
theorem r_12_known_41 : RB M_X12_known 41 .goto 45 44 := ⟨4, by decide +kernel, rfl, rfl⟩
theorem r_9_addPromise_0 : RL M_X9_addPromise 0 1 1 := Or.inl ⟨1, by decide +kernel, rfl, rfl⟩
theorem r_9_addPromise_1 : RKs M_X9_addPromise M_X11_isSide 1 1 4 := ⟨75, by decide +kernel, Or.inr (by decide +kernel), ok_M_X11_isSide, rfl⟩
theorem r_9_addPromise_4 : RB M_X9_addPromise 4 (.ifCond .eq) 34 7 := ⟨30, by decide +kernel, rfl, rfl⟩
theorem r_9_addPromise_34 : RC M_X9_addPromise 34 (-1) 35 := ⟨⟨by decide, by decide⟩, Or.inl ⟨by decide +kernel, rfl⟩⟩
theorem r_9_addPromise_35 : RW M_X9_addPromise 35 .ireturn 36 1 := ⟨by decide +kernel, rfl⟩
theorem r_9_addPromise_7 : RL M_X9_addPromise 7 2 8 := Or.inl ⟨2, by decide +kernel, rfl, rfl⟩
theorem r_9_addPromise_8 : RC M_X9_addPromise 8 1 9 := ⟨⟨by decide, by decide⟩, Or.inl ⟨by decide +kernel, rfl⟩⟩
theorem r_9_addPromise_9 : RC M_X9_addPromise 9 99 11 := ⟨⟨by decide, by decide⟩, Or.inr (Or.inl ⟨by decide +kernel, by decide, rfl⟩)⟩
theorem r_9_addPromise_11 : RKs M_X9_addPromise M_X11_within 11 3 14 := ⟨53, by decide +kernel, Or.inr (by decide +kernel), ok_M_X11_within, rfl⟩
theorem r_9_addPromise_14 : RB M_X9_addPromise 14 (.ifCond .eq) 34 17 := ⟨20, by decide +kernel, rfl, rfl⟩
theorem r_9_addPromise_17 : RL M_X9_addPromise 17 3 18 := Or.inl ⟨3, by decide +kernel, rfl, rfl⟩
theorem r_9_addPromise_18 : RA M_X9_addPromise 18 0 19 := Or.inl ⟨0, by decide +kernel, rfl, rfl⟩
theorem r_9_addPromise_19 : RG M_X9_addPromise 19 9 3 22 := ⟨43, _, by decide +kernel, rfl, by decide, wd_f9_43, rfl, rfl⟩
theorem r_9_addPromise_22 : RG M_X9_addPromise 22 1 2 25 := ⟨68, _, by decide +kernel, rfl, by decide, wd_f9_68, rfl, rfl⟩
theorem r_9_addPromise_25 : RC M_X9_addPromise 25 600 28 := ⟨⟨by decide, by decide⟩, Or.inr (Or.inr (Or.inl ⟨by decide +kernel, by decide, rfl⟩))⟩
theorem r_9_addPromise_28 : RKs M_X9_addPromise M_X11_within 28 3 31 := ⟨53, by decide +kernel, Or.inr (by decide +kernel), ok_M_X11_within, rfl⟩
theorem r_9_addPromise_31 : RB M_X9_addPromise 31 (.ifCond .ne) 36 34 := ⟨5, by decide +kernel, rfl, rfl⟩
theorem r_9_addPromise_36 : RA M_X9_addPromise 36 0 37 := Or.inl ⟨0, by decide +kernel, rfl, rfl⟩
theorem r_9_addPromise_37 : RG M_X9_addPromise 37 9 2 40 := ⟨92, _, by decide +kernel, rfl, by decide, wd_f9_92, rfl, rfl⟩
theorem r_9_addPromise_40 : RC M_X9_addPromise 40 40 42 := ⟨⟨by decide, by decide⟩, Or.inr (Or.inl ⟨by decide +kernel, by decide, rfl⟩)⟩
theorem r_9_addPromise_42 : RB M_X9_addPromise 42 (.if_icmp .lt) 48 45 := ⟨6, by decide +kernel, rfl, rfl⟩
theorem r_9_addPromise_48 : RA M_X9_addPromise 48 0 49 := Or.inl ⟨0, by decide +kernel, rfl, rfl⟩
theorem r_9_addPromise_49 : RG M_X9_addPromise 49 9 10 52 := ⟨31, _, by decide +kernel, rfl, by decide, wd_f9_31, rfl, rfl⟩
theorem r_9_addPromise_52 : RA M_X9_addPromise 52 0 53 := Or.inl ⟨0, by decide +kernel, rfl, rfl⟩
theorem r_9_addPromise_53 : RG M_X9_addPromise 53 9 2 56 := ⟨92, _, by decide +kernel, rfl, by decide, wd_f9_92, rfl, rfl⟩
theorem r_9_addPromise_56 : RL M_X9_addPromise 56 1 57 := Or.inl ⟨1, by decide +kernel, rfl, rfl⟩
theorem r_9_addPromise_57 : RW M_X9_addPromise 57 .iastore 58 1 := ⟨by decide +kernel, rfl⟩
theorem r_9_addPromise_58 : RA M_X9_addPromise 58 0 59 := Or.inl ⟨0, by decide +kernel, rfl, rfl⟩
theorem r_9_addPromise_59 : RG M_X9_addPromise 59 9 11 62 := ⟨34, _, by decide +kernel, rfl, by decide, wd_f9_34, rfl, rfl⟩
theorem r_9_addPromise_62 : RA M_X9_addPromise 62 0 63 := Or.inl ⟨0, by decide +kernel, rfl, rfl⟩
theorem r_9_addPromise_63 : RG M_X9_addPromise 63 9 2 66 := ⟨92, _, by decide +kernel, rfl, by decide, wd_f9_92, rfl, rfl⟩
theorem r_9_addPromise_66 : RL M_X9_addPromise 66 2 67 := Or.inl ⟨2, by decide +kernel, rfl, rfl⟩
theorem r_9_addPromise_67 : RW M_X9_addPromise 67 .iastore 68 1 := ⟨by decide +kernel, rfl⟩
theorem r_9_addPromise_68 : RA M_X9_addPromise 68 0 69 := Or.inl ⟨0, by decide +kernel, rfl, rfl⟩
theorem r_9_addPromise_69 : RG M_X9_addPromise 69 9 12 72 := ⟨37, _, by decide +kernel, rfl, by decide, wd_f9_37, rfl, rfl⟩
theorem r_9_addPromise_72 : RA M_X9_addPromise 72 0 73 := Or.inl ⟨0, by decide +kernel, rfl, rfl⟩
theorem r_9_addPromise_73 : RG M_X9_addPromise 73 9 2 76 := ⟨92, _, by decide +kernel, rfl, by decide, wd_f9_92, rfl, rfl⟩
theorem r_9_addPromise_76 : RA M_X9_addPromise 76 0 77 := Or.inl ⟨0, by decide +kernel, rfl, rfl⟩
theorem r_9_addPromise_77 : RG M_X9_addPromise 77 9 3 80 := ⟨43, _, by decide +kernel, rfl, by decide, wd_f9_43, rfl, rfl⟩
theorem r_9_addPromise_80 : RG M_X9_addPromise 80 1 2 83 := ⟨68, _, by decide +kernel, rfl, by decide, wd_f9_68, rfl, rfl⟩
theorem r_9_addPromise_83 : RW M_X9_addPromise 83 .iastore 84 1 := ⟨by decide +kernel, rfl⟩
theorem r_9_addPromise_84 : RA M_X9_addPromise 84 0 85 := Or.inl ⟨0, by decide +kernel, rfl, rfl⟩
theorem r_9_addPromise_85 : RG M_X9_addPromise 85 9 13 88 := ⟨40, _, by decide +kernel, rfl, by decide, wd_f9_40, rfl, rfl⟩
theorem r_9_addPromise_88 : RA M_X9_addPromise 88 0 89 := Or.inl ⟨0, by decide +kernel, rfl, rfl⟩
theorem r_9_addPromise_89 : RG M_X9_addPromise 89 9 2 92 := ⟨92, _, by decide +kernel, rfl, by decide, wd_f9_92, rfl, rfl⟩
theorem r_9_addPromise_92 : RL M_X9_addPromise 92 3 93 := Or.inl ⟨3, by decide +kernel, rfl, rfl⟩
theorem r_9_addPromise_93 : RW M_X9_addPromise 93 .iastore 94 1 := ⟨by decide +kernel, rfl⟩
theorem r_9_addPromise_94 : RA M_X9_addPromise 94 0 95 := Or.inl ⟨0, by decide +kernel, rfl, rfl⟩
theorem r_9_addPromise_95 : RW M_X9_addPromise 95 .dup 96 1 := ⟨by decide +kernel, rfl⟩
theorem r_9_addPromise_96 : RG M_X9_addPromise 96 9 2 99 := ⟨92, _, by decide +kernel, rfl, by decide, wd_f9_92, rfl, rfl⟩
theorem r_9_addPromise_99 : RC M_X9_addPromise 99 1 100 := ⟨⟨by decide, by decide⟩, Or.inl ⟨by decide +kernel, rfl⟩⟩
theorem r_9_addPromise_100 : RW M_X9_addPromise 100 .iadd 101 1 := ⟨by decide +kernel, rfl⟩
theorem r_9_addPromise_101 : RP M_X9_addPromise 101 9 2 104 := ⟨92, _, by decide +kernel, rfl, by decide, wd_f9_92, rfl, Or.inl rfl, rfl⟩
theorem r_9_addPromise_104 : RA M_X9_addPromise 104 0 105 := Or.inl ⟨0, by decide +kernel, rfl, rfl⟩
theorem r_9_addPromise_105 : RG M_X9_addPromise 105 9 2 108 := ⟨92, _, by decide +kernel, rfl, by decide, wd_f9_92, rfl, rfl⟩
theorem r_9_addPromise_108 : RC M_X9_addPromise 108 1 109 := ⟨⟨by decide, by decide⟩, Or.inl ⟨by decide +kernel, rfl⟩⟩
theorem r_9_addPromise_109 : RW M_X9_addPromise 109 .isub 110 1 := ⟨by decide +kernel, rfl⟩
theorem r_9_addPromise_110 : RW M_X9_addPromise 110 .ireturn 111 1 := ⟨by decide +kernel, rfl⟩
theorem r_9_addPromise_45 : RC M_X9_addPromise 45 (-2) 47 := ⟨⟨by decide, by decide⟩, Or.inr (Or.inl ⟨by decide +kernel, by decide, rfl⟩)⟩
theorem r_9_addPromise_47 : RW M_X9_addPromise 47 .ireturn 48 1 := ⟨by decide +kernel, rfl⟩
theorem r_12_promise_0 : RL M_X12_promise 0 1 1 := Or.inl ⟨1, by decide +kernel, rfl, rfl⟩
theorem r_12_promise_1 : RKs M_X12_promise M_X12_isSide 1 1 4 := ⟨254, by decide +kernel, Or.inl wd_m12_254, ok_M_X12_isSide, rfl⟩
theorem r_12_promise_4 : RB M_X12_promise 4 (.ifCond .eq) 31 7 := ⟨27, by decide +kernel, rfl, rfl⟩
theorem r_12_promise_31 : RC M_X12_promise 31 (-1) 32 := ⟨⟨by decide, by decide⟩, Or.inl ⟨by decide +kernel, rfl⟩⟩
theorem r_12_promise_32 : RW M_X12_promise 32 .ireturn 33 1 := ⟨by decide +kernel, rfl⟩
theorem r_12_promise_7 : RL M_X12_promise 7 2 8 := Or.inl ⟨2, by decide +kernel, rfl, rfl⟩
theorem r_12_promise_8 : RC M_X12_promise 8 1 9 := ⟨⟨by decide, by decide⟩, Or.inl ⟨by decide +kernel, rfl⟩⟩
theorem r_12_promise_9 : RC M_X12_promise 9 99 11 := ⟨⟨by decide, by decide⟩, Or.inr (Or.inl ⟨by decide +kernel, by decide, rfl⟩)⟩
theorem r_12_promise_11 : RKs M_X12_promise M_X12_within 11 3 14 := ⟨240, by decide +kernel, Or.inl wd_m12_240, ok_M_X12_within, rfl⟩
theorem r_12_promise_14 : RB M_X12_promise 14 (.ifCond .eq) 31 17 := ⟨17, by decide +kernel, rfl, rfl⟩
theorem r_12_promise_17 : RL M_X12_promise 17 3 18 := Or.inl ⟨3, by decide +kernel, rfl, rfl⟩
theorem r_12_promise_18 : RA M_X12_promise 18 0 19 := Or.inl ⟨0, by decide +kernel, rfl, rfl⟩
theorem r_12_promise_19 : RG M_X12_promise 19 12 0 22 := ⟨268, _, by decide +kernel, rfl, by decide, wd_f12_268, rfl, rfl⟩
theorem r_12_promise_22 : RC M_X12_promise 22 600 25 := ⟨⟨by decide, by decide⟩, Or.inr (Or.inr (Or.inl ⟨by decide +kernel, by decide, rfl⟩))⟩
theorem r_12_promise_25 : RKs M_X12_promise M_X12_within 25 3 28 := ⟨240, by decide +kernel, Or.inl wd_m12_240, ok_M_X12_within, rfl⟩
theorem r_12_promise_28 : RB M_X12_promise 28 (.ifCond .ne) 33 31 := ⟨5, by decide +kernel, rfl, rfl⟩
theorem r_12_promise_33 : RA M_X12_promise 33 0 34 := Or.inl ⟨0, by decide +kernel, rfl, rfl⟩
theorem r_12_promise_34 : RG M_X12_promise 34 12 34 37 := ⟨309, _, by decide +kernel, rfl, by decide, wd_f12_309, rfl, rfl⟩
theorem r_12_promise_37 : RC M_X12_promise 37 40 39 := ⟨⟨by decide, by decide⟩, Or.inr (Or.inl ⟨by decide +kernel, by decide, rfl⟩)⟩
theorem r_12_promise_39 : RB M_X12_promise 39 (.if_icmp .ne) 45 42 := ⟨6, by decide +kernel, rfl, rfl⟩
theorem r_12_promise_45 : RA M_X12_promise 45 0 46 := Or.inl ⟨0, by decide +kernel, rfl, rfl⟩
theorem r_12_promise_46 : RG M_X12_promise 46 12 30 49 := ⟨82, _, by decide +kernel, rfl, by decide, wd_f12_82, rfl, rfl⟩
theorem r_12_promise_49 : RA M_X12_promise 49 0 50 := Or.inl ⟨0, by decide +kernel, rfl, rfl⟩
theorem r_12_promise_50 : RG M_X12_promise 50 12 34 53 := ⟨309, _, by decide +kernel, rfl, by decide, wd_f12_309, rfl, rfl⟩
theorem r_12_promise_53 : RL M_X12_promise 53 1 54 := Or.inl ⟨1, by decide +kernel, rfl, rfl⟩
theorem r_12_promise_54 : RW M_X12_promise 54 .iastore 55 1 := ⟨by decide +kernel, rfl⟩
theorem r_12_promise_55 : RA M_X12_promise 55 0 56 := Or.inl ⟨0, by decide +kernel, rfl, rfl⟩
theorem r_12_promise_56 : RG M_X12_promise 56 12 31 59 := ⟨85, _, by decide +kernel, rfl, by decide, wd_f12_85, rfl, rfl⟩
theorem r_12_promise_59 : RA M_X12_promise 59 0 60 := Or.inl ⟨0, by decide +kernel, rfl, rfl⟩
theorem r_12_promise_60 : RG M_X12_promise 60 12 34 63 := ⟨309, _, by decide +kernel, rfl, by decide, wd_f12_309, rfl, rfl⟩
theorem r_12_promise_63 : RL M_X12_promise 63 2 64 := Or.inl ⟨2, by decide +kernel, rfl, rfl⟩
theorem r_12_promise_64 : RW M_X12_promise 64 .iastore 65 1 := ⟨by decide +kernel, rfl⟩
theorem r_12_promise_65 : RA M_X12_promise 65 0 66 := Or.inl ⟨0, by decide +kernel, rfl, rfl⟩
theorem r_12_promise_66 : RG M_X12_promise 66 12 32 69 := ⟨88, _, by decide +kernel, rfl, by decide, wd_f12_88, rfl, rfl⟩
theorem r_12_promise_69 : RA M_X12_promise 69 0 70 := Or.inl ⟨0, by decide +kernel, rfl, rfl⟩
theorem r_12_promise_70 : RG M_X12_promise 70 12 34 73 := ⟨309, _, by decide +kernel, rfl, by decide, wd_f12_309, rfl, rfl⟩
theorem r_12_promise_73 : RA M_X12_promise 73 0 74 := Or.inl ⟨0, by decide +kernel, rfl, rfl⟩
theorem r_12_promise_74 : RG M_X12_promise 74 12 0 77 := ⟨268, _, by decide +kernel, rfl, by decide, wd_f12_268, rfl, rfl⟩
theorem r_12_promise_77 : RW M_X12_promise 77 .iastore 78 1 := ⟨by decide +kernel, rfl⟩
theorem r_12_promise_78 : RA M_X12_promise 78 0 79 := Or.inl ⟨0, by decide +kernel, rfl, rfl⟩
theorem r_12_promise_79 : RG M_X12_promise 79 12 33 82 := ⟨91, _, by decide +kernel, rfl, by decide, wd_f12_91, rfl, rfl⟩
theorem r_12_promise_82 : RA M_X12_promise 82 0 83 := Or.inl ⟨0, by decide +kernel, rfl, rfl⟩
theorem r_12_promise_83 : RG M_X12_promise 83 12 34 86 := ⟨309, _, by decide +kernel, rfl, by decide, wd_f12_309, rfl, rfl⟩
theorem r_12_promise_86 : RL M_X12_promise 86 3 87 := Or.inl ⟨3, by decide +kernel, rfl, rfl⟩
theorem r_12_promise_87 : RW M_X12_promise 87 .iastore 88 1 := ⟨by decide +kernel, rfl⟩
theorem r_12_promise_88 : RA M_X12_promise 88 0 89 := Or.inl ⟨0, by decide +kernel, rfl, rfl⟩
theorem r_12_promise_89 : RW M_X12_promise 89 .dup 90 1 := ⟨by decide +kernel, rfl⟩
theorem r_12_promise_90 : RG M_X12_promise 90 12 34 93 := ⟨309, _, by decide +kernel, rfl, by decide, wd_f12_309, rfl, rfl⟩
theorem r_12_promise_93 : RC M_X12_promise 93 1 94 := ⟨⟨by decide, by decide⟩, Or.inl ⟨by decide +kernel, rfl⟩⟩
theorem r_12_promise_94 : RW M_X12_promise 94 .iadd 95 1 := ⟨by decide +kernel, rfl⟩
theorem r_12_promise_95 : RP M_X12_promise 95 12 34 98 := ⟨309, _, by decide +kernel, rfl, by decide, wd_f12_309, rfl, Or.inl rfl, rfl⟩
theorem r_12_promise_98 : RA M_X12_promise 98 0 99 := Or.inl ⟨0, by decide +kernel, rfl, rfl⟩
theorem r_12_promise_99 : RG M_X12_promise 99 12 34 102 := ⟨309, _, by decide +kernel, rfl, by decide, wd_f12_309, rfl, rfl⟩
theorem r_12_promise_102 : RC M_X12_promise 102 1 103 := ⟨⟨by decide, by decide⟩, Or.inl ⟨by decide +kernel, rfl⟩⟩
theorem r_12_promise_103 : RW M_X12_promise 103 .isub 104 1 := ⟨by decide +kernel, rfl⟩
theorem r_12_promise_104 : RW M_X12_promise 104 .ireturn 105 1 := ⟨by decide +kernel, rfl⟩
theorem r_12_promise_42 : RC M_X12_promise 42 (-2) 44 := ⟨⟨by decide, by decide⟩, Or.inr (Or.inl ⟨by decide +kernel, by decide, rfl⟩)⟩
theorem r_12_promise_44 : RW M_X12_promise 44 .ireturn 45 1 := ⟨by decide +kernel, rfl⟩
theorem r_9_isBroken_0 : RL M_X9_isBroken 0 2 1 := Or.inl ⟨2, by decide +kernel, rfl, rfl⟩
theorem r_9_isBroken_1 : RA M_X9_isBroken 1 0 2 := Or.inl ⟨0, by decide +kernel, rfl, rfl⟩
theorem r_9_isBroken_2 : RG M_X9_isBroken 2 9 13 5 := ⟨40, _, by decide +kernel, rfl, by decide, wd_f9_40, rfl, rfl⟩
theorem r_9_isBroken_5 : RL M_X9_isBroken 5 1 6 := Or.inl ⟨1, by decide +kernel, rfl, rfl⟩
theorem r_9_isBroken_6 : RW M_X9_isBroken 6 .iaload 7 1 := ⟨by decide +kernel, rfl⟩
theorem r_9_isBroken_7 : RB M_X9_isBroken 7 (.if_icmp .le) 48 10 := ⟨41, by decide +kernel, rfl, rfl⟩
theorem r_9_isBroken_48 : RC M_X9_isBroken 48 0 49 := ⟨⟨by decide, by decide⟩, Or.inl ⟨by decide +kernel, rfl⟩⟩
theorem r_9_isBroken_49 : RW M_X9_isBroken 49 .ireturn 50 1 := ⟨by decide +kernel, rfl⟩
theorem r_9_isBroken_10 : RA M_X9_isBroken 10 0 11 := Or.inl ⟨0, by decide +kernel, rfl, rfl⟩
theorem r_9_isBroken_11 : RG M_X9_isBroken 11 9 3 14 := ⟨43, _, by decide +kernel, rfl, by decide, wd_f9_43, rfl, rfl⟩
theorem r_9_isBroken_14 : RA M_X9_isBroken 14 0 15 := Or.inl ⟨0, by decide +kernel, rfl, rfl⟩
theorem r_9_isBroken_15 : RG M_X9_isBroken 15 9 10 18 := ⟨31, _, by decide +kernel, rfl, by decide, wd_f9_31, rfl, rfl⟩
theorem r_9_isBroken_18 : RL M_X9_isBroken 18 1 19 := Or.inl ⟨1, by decide +kernel, rfl, rfl⟩
theorem r_9_isBroken_19 : RW M_X9_isBroken 19 .iaload 20 1 := ⟨by decide +kernel, rfl⟩
theorem r_9_isBroken_20 : RA M_X9_isBroken 20 0 21 := Or.inl ⟨0, by decide +kernel, rfl, rfl⟩
theorem r_9_isBroken_21 : RG M_X9_isBroken 21 9 12 24 := ⟨37, _, by decide +kernel, rfl, by decide, wd_f9_37, rfl, rfl⟩
theorem r_9_isBroken_24 : RL M_X9_isBroken 24 1 25 := Or.inl ⟨1, by decide +kernel, rfl, rfl⟩
theorem r_9_isBroken_25 : RW M_X9_isBroken 25 .iaload 26 1 := ⟨by decide +kernel, rfl⟩
theorem r_9_isBroken_26 : RA M_X9_isBroken 26 0 27 := Or.inl ⟨0, by decide +kernel, rfl, rfl⟩
theorem r_9_isBroken_27 : RG M_X9_isBroken 27 9 13 30 := ⟨40, _, by decide +kernel, rfl, by decide, wd_f9_40, rfl, rfl⟩
theorem r_9_isBroken_30 : RL M_X9_isBroken 30 1 31 := Or.inl ⟨1, by decide +kernel, rfl, rfl⟩
theorem r_9_isBroken_31 : RW M_X9_isBroken 31 .iaload 32 1 := ⟨by decide +kernel, rfl⟩
theorem r_9_isBroken_32 : RKv M_X9_isBroken M_X1_countHandedOver 32 3 1 35 := ⟨95, by decide +kernel, wd_m9_95, ok_M_X1_countHandedOver, wd_s1_countHandedOver, rfl⟩
theorem r_9_isBroken_35 : RA M_X9_isBroken 35 0 36 := Or.inl ⟨0, by decide +kernel, rfl, rfl⟩
theorem r_9_isBroken_36 : RG M_X9_isBroken 36 9 11 39 := ⟨34, _, by decide +kernel, rfl, by decide, wd_f9_34, rfl, rfl⟩
theorem r_9_isBroken_39 : RL M_X9_isBroken 39 1 40 := Or.inl ⟨1, by decide +kernel, rfl, rfl⟩
theorem r_9_isBroken_40 : RW M_X9_isBroken 40 .iaload 41 1 := ⟨by decide +kernel, rfl⟩
theorem r_9_isBroken_41 : RB M_X9_isBroken 41 (.if_icmp .ge) 48 44 := ⟨7, by decide +kernel, rfl, rfl⟩
theorem r_9_isBroken_44 : RC M_X9_isBroken 44 1 45 := ⟨⟨by decide, by decide⟩, Or.inl ⟨by decide +kernel, rfl⟩⟩
theorem r_9_isBroken_45 : RB M_X9_isBroken 45 .goto 49 48 := ⟨4, by decide +kernel, rfl, rfl⟩
theorem r_12_isBroken_0 : RL M_X12_isBroken 0 2 1 := Or.inl ⟨2, by decide +kernel, rfl, rfl⟩
theorem r_12_isBroken_1 : RA M_X12_isBroken 1 0 2 := Or.inl ⟨0, by decide +kernel, rfl, rfl⟩
theorem r_12_isBroken_2 : RG M_X12_isBroken 2 12 33 5 := ⟨91, _, by decide +kernel, rfl, by decide, wd_f12_91, rfl, rfl⟩
theorem r_12_isBroken_5 : RL M_X12_isBroken 5 1 6 := Or.inl ⟨1, by decide +kernel, rfl, rfl⟩
theorem r_12_isBroken_6 : RW M_X12_isBroken 6 .iaload 7 1 := ⟨by decide +kernel, rfl⟩
theorem r_12_isBroken_7 : RB M_X12_isBroken 7 (.if_icmp .le) 28 10 := ⟨21, by decide +kernel, rfl, rfl⟩
theorem r_12_isBroken_28 : RC M_X12_isBroken 28 0 29 := ⟨⟨by decide, by decide⟩, Or.inl ⟨by decide +kernel, rfl⟩⟩
theorem r_12_isBroken_29 : RW M_X12_isBroken 29 .ireturn 30 1 := ⟨by decide +kernel, rfl⟩
theorem r_12_isBroken_10 : RA M_X12_isBroken 10 0 11 := Or.inl ⟨0, by decide +kernel, rfl, rfl⟩
theorem r_12_isBroken_11 : RL M_X12_isBroken 11 1 12 := Or.inl ⟨1, by decide +kernel, rfl, rfl⟩
theorem r_12_isBroken_12 : RKv M_X12_isBroken M_X12_doneOf 12 1 12 15 := ⟨312, by decide +kernel, wd_m12_312, ok_M_X12_doneOf, wd_s12_doneOf, rfl⟩
theorem r_12_isBroken_15 : RA M_X12_isBroken 15 0 16 := Or.inl ⟨0, by decide +kernel, rfl, rfl⟩
theorem r_12_isBroken_16 : RG M_X12_isBroken 16 12 31 19 := ⟨85, _, by decide +kernel, rfl, by decide, wd_f12_85, rfl, rfl⟩
theorem r_12_isBroken_19 : RL M_X12_isBroken 19 1 20 := Or.inl ⟨1, by decide +kernel, rfl, rfl⟩
theorem r_12_isBroken_20 : RW M_X12_isBroken 20 .iaload 21 1 := ⟨by decide +kernel, rfl⟩
theorem r_12_isBroken_21 : RB M_X12_isBroken 21 (.if_icmp .ge) 28 24 := ⟨7, by decide +kernel, rfl, rfl⟩
theorem r_12_isBroken_24 : RC M_X12_isBroken 24 1 25 := ⟨⟨by decide, by decide⟩, Or.inl ⟨by decide +kernel, rfl⟩⟩
theorem r_12_isBroken_25 : RB M_X12_isBroken 25 .goto 29 28 := ⟨4, by decide +kernel, rfl, rfl⟩
theorem r_9_countBroken_0 : RC M_X9_countBroken 0 0 1 := ⟨⟨by decide, by decide⟩, Or.inl ⟨by decide +kernel, rfl⟩⟩
theorem r_9_countBroken_1 : RS M_X9_countBroken 1 3 2 := ⟨by decide, Or.inl ⟨3, by decide +kernel, rfl, rfl⟩⟩
theorem r_9_countBroken_2 : RC M_X9_countBroken 2 0 3 := ⟨⟨by decide, by decide⟩, Or.inl ⟨by decide +kernel, rfl⟩⟩
theorem r_9_countBroken_3 : RS M_X9_countBroken 3 4 5 := ⟨by decide, Or.inr ⟨by decide +kernel, rfl⟩⟩
theorem r_9_countBroken_5 : RL M_X9_countBroken 5 4 7 := Or.inr ⟨by decide +kernel, rfl⟩
theorem r_9_countBroken_7 : RA M_X9_countBroken 7 0 8 := Or.inl ⟨0, by decide +kernel, rfl, rfl⟩
theorem r_9_countBroken_8 : RG M_X9_countBroken 8 9 2 11 := ⟨92, _, by decide +kernel, rfl, by decide, wd_f9_92, rfl, rfl⟩
theorem r_9_countBroken_11 : RB M_X9_countBroken 11 (.if_icmp .ge) 44 14 := ⟨33, by decide +kernel, rfl, rfl⟩
theorem r_9_countBroken_44 : RL M_X9_countBroken 44 3 45 := Or.inl ⟨3, by decide +kernel, rfl, rfl⟩
theorem r_9_countBroken_45 : RW M_X9_countBroken 45 .ireturn 46 1 := ⟨by decide +kernel, rfl⟩
theorem r_9_countBroken_14 : RA M_X9_countBroken 14 0 15 := Or.inl ⟨0, by decide +kernel, rfl, rfl⟩
theorem r_9_countBroken_15 : RG M_X9_countBroken 15 9 10 18 := ⟨31, _, by decide +kernel, rfl, by decide, wd_f9_31, rfl, rfl⟩
theorem r_9_countBroken_18 : RL M_X9_countBroken 18 4 20 := Or.inr ⟨by decide +kernel, rfl⟩
theorem r_9_countBroken_20 : RW M_X9_countBroken 20 .iaload 21 1 := ⟨by decide +kernel, rfl⟩
theorem r_9_countBroken_21 : RL M_X9_countBroken 21 1 22 := Or.inl ⟨1, by decide +kernel, rfl, rfl⟩
theorem r_9_countBroken_22 : RB M_X9_countBroken 22 (.if_icmp .ne) 38 25 := ⟨16, by decide +kernel, rfl, rfl⟩
theorem r_9_countBroken_38 : RI M_X9_countBroken 38 4 1 41 := ⟨by decide, by decide +kernel, rfl⟩
theorem r_9_countBroken_41 : RB M_X9_countBroken 41 .goto 5 44 := ⟨(-36), by decide +kernel, rfl, rfl⟩
theorem r_9_countBroken_25 : RA M_X9_countBroken 25 0 26 := Or.inl ⟨0, by decide +kernel, rfl, rfl⟩
theorem r_9_countBroken_26 : RL M_X9_countBroken 26 4 28 := Or.inr ⟨by decide +kernel, rfl⟩
theorem r_9_countBroken_28 : RL M_X9_countBroken 28 2 29 := Or.inl ⟨2, by decide +kernel, rfl, rfl⟩
theorem r_9_countBroken_29 : RKv M_X9_countBroken M_X9_isBroken 29 2 9 32 := ⟨99, by decide +kernel, wd_m9_99, ok_M_X9_isBroken, wd_s9_isBroken, rfl⟩
theorem r_9_countBroken_32 : RB M_X9_countBroken 32 (.ifCond .eq) 38 35 := ⟨6, by decide +kernel, rfl, rfl⟩
theorem r_9_countBroken_35 : RI M_X9_countBroken 35 3 1 38 := ⟨by decide, by decide +kernel, rfl⟩
theorem r_12_brokenOf_0 : RC M_X12_brokenOf 0 0 1 := ⟨⟨by decide, by decide⟩, Or.inl ⟨by decide +kernel, rfl⟩⟩
theorem r_12_brokenOf_1 : RS M_X12_brokenOf 1 3 2 := ⟨by decide, Or.inl ⟨3, by decide +kernel, rfl, rfl⟩⟩
theorem r_12_brokenOf_2 : RC M_X12_brokenOf 2 0 3 := ⟨⟨by decide, by decide⟩, Or.inl ⟨by decide +kernel, rfl⟩⟩
theorem r_12_brokenOf_3 : RS M_X12_brokenOf 3 4 5 := ⟨by decide, Or.inr ⟨by decide +kernel, rfl⟩⟩
theorem r_12_brokenOf_5 : RL M_X12_brokenOf 5 4 7 := Or.inr ⟨by decide +kernel, rfl⟩
theorem r_12_brokenOf_7 : RA M_X12_brokenOf 7 0 8 := Or.inl ⟨0, by decide +kernel, rfl, rfl⟩
theorem r_12_brokenOf_8 : RG M_X12_brokenOf 8 12 34 11 := ⟨309, _, by decide +kernel, rfl, by decide, wd_f12_309, rfl, rfl⟩
theorem r_12_brokenOf_11 : RB M_X12_brokenOf 11 (.if_icmp .ge) 49 14 := ⟨38, by decide +kernel, rfl, rfl⟩
theorem r_12_brokenOf_49 : RL M_X12_brokenOf 49 3 50 := Or.inl ⟨3, by decide +kernel, rfl, rfl⟩
theorem r_12_brokenOf_50 : RW M_X12_brokenOf 50 .ireturn 51 1 := ⟨by decide +kernel, rfl⟩
theorem r_12_brokenOf_14 : RL M_X12_brokenOf 14 3 15 := Or.inl ⟨3, by decide +kernel, rfl, rfl⟩
theorem r_12_brokenOf_15 : RA M_X12_brokenOf 15 0 16 := Or.inl ⟨0, by decide +kernel, rfl, rfl⟩
theorem r_12_brokenOf_16 : RG M_X12_brokenOf 16 12 30 19 := ⟨82, _, by decide +kernel, rfl, by decide, wd_f12_82, rfl, rfl⟩
theorem r_12_brokenOf_19 : RL M_X12_brokenOf 19 4 21 := Or.inr ⟨by decide +kernel, rfl⟩
theorem r_12_brokenOf_21 : RW M_X12_brokenOf 21 .iaload 22 1 := ⟨by decide +kernel, rfl⟩
theorem r_12_brokenOf_22 : RL M_X12_brokenOf 22 1 23 := Or.inl ⟨1, by decide +kernel, rfl, rfl⟩
theorem r_12_brokenOf_23 : RB M_X12_brokenOf 23 (.if_icmp .ne) 40 26 := ⟨17, by decide +kernel, rfl, rfl⟩
theorem r_12_brokenOf_40 : RC M_X12_brokenOf 40 0 41 := ⟨⟨by decide, by decide⟩, Or.inl ⟨by decide +kernel, rfl⟩⟩
theorem r_12_brokenOf_41 : RW M_X12_brokenOf 41 .iadd 42 1 := ⟨by decide +kernel, rfl⟩
theorem r_12_brokenOf_42 : RS M_X12_brokenOf 42 3 43 := ⟨by decide, Or.inl ⟨3, by decide +kernel, rfl, rfl⟩⟩
theorem r_12_brokenOf_43 : RI M_X12_brokenOf 43 4 1 46 := ⟨by decide, by decide +kernel, rfl⟩
theorem r_12_brokenOf_46 : RB M_X12_brokenOf 46 .goto 5 49 := ⟨(-41), by decide +kernel, rfl, rfl⟩
theorem r_12_brokenOf_26 : RA M_X12_brokenOf 26 0 27 := Or.inl ⟨0, by decide +kernel, rfl, rfl⟩
theorem r_12_brokenOf_27 : RL M_X12_brokenOf 27 4 29 := Or.inr ⟨by decide +kernel, rfl⟩
theorem r_12_brokenOf_29 : RL M_X12_brokenOf 29 2 30 := Or.inl ⟨2, by decide +kernel, rfl, rfl⟩
theorem r_12_brokenOf_30 : RKv M_X12_brokenOf M_X12_isBroken 30 2 12 33 := ⟨315, by decide +kernel, wd_m12_315, ok_M_X12_isBroken, wd_s12_isBroken, rfl⟩
theorem r_12_brokenOf_33 : RB M_X12_brokenOf 33 (.ifCond .eq) 40 36 := ⟨7, by decide +kernel, rfl, rfl⟩
theorem r_12_brokenOf_36 : RC M_X12_brokenOf 36 1 37 := ⟨⟨by decide, by decide⟩, Or.inl ⟨by decide +kernel, rfl⟩⟩
theorem r_12_brokenOf_37 : RB M_X12_brokenOf 37 .goto 41 40 := ⟨4, by decide +kernel, rfl, rfl⟩
theorem r_9_tellBroken_0 : RL M_X9_tellBroken 0 1 1 := Or.inl ⟨1, by decide +kernel, rfl, rfl⟩
theorem r_9_tellBroken_1 : RKs M_X9_tellBroken M_X11_isSide 1 1 4 := ⟨75, by decide +kernel, Or.inr (by decide +kernel), ok_M_X11_isSide, rfl⟩
theorem r_9_tellBroken_4 : RB M_X9_tellBroken 4 (.ifCond .eq) 22 7 := ⟨18, by decide +kernel, rfl, rfl⟩
theorem r_9_tellBroken_22 : RC M_X9_tellBroken 22 (-1) 23 := ⟨⟨by decide, by decide⟩, Or.inl ⟨by decide +kernel, rfl⟩⟩
theorem r_9_tellBroken_23 : RW M_X9_tellBroken 23 .ireturn 24 1 := ⟨by decide +kernel, rfl⟩
theorem r_9_tellBroken_7 : RL M_X9_tellBroken 7 2 8 := Or.inl ⟨2, by decide +kernel, rfl, rfl⟩
theorem r_9_tellBroken_8 : RC M_X9_tellBroken 8 0 9 := ⟨⟨by decide, by decide⟩, Or.inl ⟨by decide +kernel, rfl⟩⟩
theorem r_9_tellBroken_9 : RA M_X9_tellBroken 9 0 10 := Or.inl ⟨0, by decide +kernel, rfl, rfl⟩
theorem r_9_tellBroken_10 : RG M_X9_tellBroken 10 9 3 13 := ⟨43, _, by decide +kernel, rfl, by decide, wd_f9_43, rfl, rfl⟩
theorem r_9_tellBroken_13 : RG M_X9_tellBroken 13 1 2 16 := ⟨68, _, by decide +kernel, rfl, by decide, wd_f9_68, rfl, rfl⟩
theorem r_9_tellBroken_16 : RKs M_X9_tellBroken M_X11_within 16 3 19 := ⟨53, by decide +kernel, Or.inr (by decide +kernel), ok_M_X11_within, rfl⟩
theorem r_9_tellBroken_19 : RB M_X9_tellBroken 19 (.ifCond .ne) 24 22 := ⟨5, by decide +kernel, rfl, rfl⟩
theorem r_9_tellBroken_24 : RA M_X9_tellBroken 24 0 25 := Or.inl ⟨0, by decide +kernel, rfl, rfl⟩
theorem r_9_tellBroken_25 : RL M_X9_tellBroken 25 1 26 := Or.inl ⟨1, by decide +kernel, rfl, rfl⟩
theorem r_9_tellBroken_26 : RL M_X9_tellBroken 26 2 27 := Or.inl ⟨2, by decide +kernel, rfl, rfl⟩
theorem r_9_tellBroken_27 : RKv M_X9_tellBroken M_X9_countBroken 27 2 9 30 := ⟨103, by decide +kernel, wd_m9_103, ok_M_X9_countBroken, wd_s9_countBroken, rfl⟩
theorem r_9_tellBroken_30 : RW M_X9_tellBroken 30 .ireturn 31 1 := ⟨by decide +kernel, rfl⟩
theorem r_12_broken_0 : RL M_X12_broken 0 1 1 := Or.inl ⟨1, by decide +kernel, rfl, rfl⟩
theorem r_12_broken_1 : RKs M_X12_broken M_X12_isSide 1 1 4 := ⟨254, by decide +kernel, Or.inl wd_m12_254, ok_M_X12_isSide, rfl⟩
theorem r_12_broken_4 : RB M_X12_broken 4 (.ifCond .eq) 28 7 := ⟨24, by decide +kernel, rfl, rfl⟩
theorem r_12_broken_28 : RC M_X12_broken 28 (-1) 29 := ⟨⟨by decide, by decide⟩, Or.inl ⟨by decide +kernel, rfl⟩⟩
theorem r_12_broken_29 : RW M_X12_broken 29 .ireturn 30 1 := ⟨by decide +kernel, rfl⟩
theorem r_12_broken_7 : RL M_X12_broken 7 2 8 := Or.inl ⟨2, by decide +kernel, rfl, rfl⟩
theorem r_12_broken_8 : RC M_X12_broken 8 0 9 := ⟨⟨by decide, by decide⟩, Or.inl ⟨by decide +kernel, rfl⟩⟩
theorem r_12_broken_9 : RA M_X12_broken 9 0 10 := Or.inl ⟨0, by decide +kernel, rfl, rfl⟩
theorem r_12_broken_10 : RG M_X12_broken 10 12 0 13 := ⟨268, _, by decide +kernel, rfl, by decide, wd_f12_268, rfl, rfl⟩
theorem r_12_broken_13 : RKs M_X12_broken M_X12_within 13 3 16 := ⟨240, by decide +kernel, Or.inl wd_m12_240, ok_M_X12_within, rfl⟩
theorem r_12_broken_16 : RB M_X12_broken 16 (.ifCond .eq) 28 19 := ⟨12, by decide +kernel, rfl, rfl⟩
theorem r_12_broken_19 : RA M_X12_broken 19 0 20 := Or.inl ⟨0, by decide +kernel, rfl, rfl⟩
theorem r_12_broken_20 : RL M_X12_broken 20 1 21 := Or.inl ⟨1, by decide +kernel, rfl, rfl⟩
theorem r_12_broken_21 : RL M_X12_broken 21 2 22 := Or.inl ⟨2, by decide +kernel, rfl, rfl⟩
theorem r_12_broken_22 : RKv M_X12_broken M_X12_brokenOf 22 2 12 25 := ⟨319, by decide +kernel, wd_m12_319, ok_M_X12_brokenOf, wd_s12_brokenOf, rfl⟩
theorem r_12_broken_25 : RB M_X12_broken 25 .goto 29 28 := ⟨4, by decide +kernel, rfl, rfl⟩
theorem r_9_tellPromise_0 : RL M_X9_tellPromise 0 1 1 := Or.inl ⟨1, by decide +kernel, rfl, rfl⟩
theorem r_9_tellPromise_1 : RB M_X9_tellPromise 1 (.ifCond .lt) 12 4 := ⟨11, by decide +kernel, rfl, rfl⟩
theorem r_9_tellPromise_12 : RC M_X9_tellPromise 12 (-1) 13 := ⟨⟨by decide, by decide⟩, Or.inl ⟨by decide +kernel, rfl⟩⟩
theorem r_9_tellPromise_13 : RW M_X9_tellPromise 13 .ireturn 14 1 := ⟨by decide +kernel, rfl⟩
theorem r_9_tellPromise_4 : RL M_X9_tellPromise 4 1 5 := Or.inl ⟨1, by decide +kernel, rfl, rfl⟩
theorem r_9_tellPromise_5 : RA M_X9_tellPromise 5 0 6 := Or.inl ⟨0, by decide +kernel, rfl, rfl⟩
theorem r_9_tellPromise_6 : RG M_X9_tellPromise 6 9 2 9 := ⟨92, _, by decide +kernel, rfl, by decide, wd_f9_92, rfl, rfl⟩
theorem r_9_tellPromise_9 : RB M_X9_tellPromise 9 (.if_icmp .lt) 14 12 := ⟨5, by decide +kernel, rfl, rfl⟩
theorem r_9_tellPromise_14 : RL M_X9_tellPromise 14 2 15 := Or.inl ⟨2, by decide +kernel, rfl, rfl⟩
theorem r_9_tellPromise_15 : RTS M_X9_tellPromise 15 [(0, 48), (1, 55), (2, 62), (3, 69), (4, 95)] 116 := ⟨101, 0, 4, #[33, 40, 47, 54, 80], 33, by decide +kernel, by decide, rfl, by decide⟩
theorem r_9_tellPromise_48 : RA M_X9_tellPromise 48 0 49 := Or.inl ⟨0, by decide +kernel, rfl, rfl⟩
theorem r_9_tellPromise_49 : RG M_X9_tellPromise 49 9 10 52 := ⟨31, _, by decide +kernel, rfl, by decide, wd_f9_31, rfl, rfl⟩
theorem r_9_tellPromise_52 : RL M_X9_tellPromise 52 1 53 := Or.inl ⟨1, by decide +kernel, rfl, rfl⟩
theorem r_9_tellPromise_53 : RW M_X9_tellPromise 53 .iaload 54 1 := ⟨by decide +kernel, rfl⟩
theorem r_9_tellPromise_54 : RW M_X9_tellPromise 54 .ireturn 55 1 := ⟨by decide +kernel, rfl⟩
theorem r_9_tellPromise_55 : RA M_X9_tellPromise 55 0 56 := Or.inl ⟨0, by decide +kernel, rfl, rfl⟩
theorem r_9_tellPromise_56 : RG M_X9_tellPromise 56 9 11 59 := ⟨34, _, by decide +kernel, rfl, by decide, wd_f9_34, rfl, rfl⟩
theorem r_9_tellPromise_59 : RL M_X9_tellPromise 59 1 60 := Or.inl ⟨1, by decide +kernel, rfl, rfl⟩
theorem r_9_tellPromise_60 : RW M_X9_tellPromise 60 .iaload 61 1 := ⟨by decide +kernel, rfl⟩
theorem r_9_tellPromise_61 : RW M_X9_tellPromise 61 .ireturn 62 1 := ⟨by decide +kernel, rfl⟩
theorem r_9_tellPromise_62 : RA M_X9_tellPromise 62 0 63 := Or.inl ⟨0, by decide +kernel, rfl, rfl⟩
theorem r_9_tellPromise_63 : RG M_X9_tellPromise 63 9 13 66 := ⟨40, _, by decide +kernel, rfl, by decide, wd_f9_40, rfl, rfl⟩
theorem r_9_tellPromise_66 : RL M_X9_tellPromise 66 1 67 := Or.inl ⟨1, by decide +kernel, rfl, rfl⟩
theorem r_9_tellPromise_67 : RW M_X9_tellPromise 67 .iaload 68 1 := ⟨by decide +kernel, rfl⟩
theorem r_9_tellPromise_68 : RW M_X9_tellPromise 68 .ireturn 69 1 := ⟨by decide +kernel, rfl⟩
theorem r_9_tellPromise_69 : RA M_X9_tellPromise 69 0 70 := Or.inl ⟨0, by decide +kernel, rfl, rfl⟩
theorem r_9_tellPromise_70 : RG M_X9_tellPromise 70 9 3 73 := ⟨43, _, by decide +kernel, rfl, by decide, wd_f9_43, rfl, rfl⟩
theorem r_9_tellPromise_73 : RA M_X9_tellPromise 73 0 74 := Or.inl ⟨0, by decide +kernel, rfl, rfl⟩
theorem r_9_tellPromise_74 : RG M_X9_tellPromise 74 9 10 77 := ⟨31, _, by decide +kernel, rfl, by decide, wd_f9_31, rfl, rfl⟩
theorem r_9_tellPromise_77 : RL M_X9_tellPromise 77 1 78 := Or.inl ⟨1, by decide +kernel, rfl, rfl⟩
theorem r_9_tellPromise_78 : RW M_X9_tellPromise 78 .iaload 79 1 := ⟨by decide +kernel, rfl⟩
theorem r_9_tellPromise_79 : RA M_X9_tellPromise 79 0 80 := Or.inl ⟨0, by decide +kernel, rfl, rfl⟩
theorem r_9_tellPromise_80 : RG M_X9_tellPromise 80 9 12 83 := ⟨37, _, by decide +kernel, rfl, by decide, wd_f9_37, rfl, rfl⟩
theorem r_9_tellPromise_83 : RL M_X9_tellPromise 83 1 84 := Or.inl ⟨1, by decide +kernel, rfl, rfl⟩
theorem r_9_tellPromise_84 : RW M_X9_tellPromise 84 .iaload 85 1 := ⟨by decide +kernel, rfl⟩
theorem r_9_tellPromise_85 : RA M_X9_tellPromise 85 0 86 := Or.inl ⟨0, by decide +kernel, rfl, rfl⟩
theorem r_9_tellPromise_86 : RG M_X9_tellPromise 86 9 13 89 := ⟨40, _, by decide +kernel, rfl, by decide, wd_f9_40, rfl, rfl⟩
theorem r_9_tellPromise_89 : RL M_X9_tellPromise 89 1 90 := Or.inl ⟨1, by decide +kernel, rfl, rfl⟩
theorem r_9_tellPromise_90 : RW M_X9_tellPromise 90 .iaload 91 1 := ⟨by decide +kernel, rfl⟩
theorem r_9_tellPromise_91 : RKv M_X9_tellPromise M_X1_countHandedOver 91 3 1 94 := ⟨95, by decide +kernel, wd_m9_95, ok_M_X1_countHandedOver, wd_s1_countHandedOver, rfl⟩
theorem r_9_tellPromise_94 : RW M_X9_tellPromise 94 .ireturn 95 1 := ⟨by decide +kernel, rfl⟩
theorem r_9_tellPromise_95 : RA M_X9_tellPromise 95 0 96 := Or.inl ⟨0, by decide +kernel, rfl, rfl⟩
theorem r_9_tellPromise_96 : RL M_X9_tellPromise 96 1 97 := Or.inl ⟨1, by decide +kernel, rfl, rfl⟩
theorem r_9_tellPromise_97 : RA M_X9_tellPromise 97 0 98 := Or.inl ⟨0, by decide +kernel, rfl, rfl⟩
theorem r_9_tellPromise_98 : RG M_X9_tellPromise 98 9 3 101 := ⟨43, _, by decide +kernel, rfl, by decide, wd_f9_43, rfl, rfl⟩
theorem r_9_tellPromise_101 : RG M_X9_tellPromise 101 1 2 104 := ⟨68, _, by decide +kernel, rfl, by decide, wd_f9_68, rfl, rfl⟩
theorem r_9_tellPromise_104 : RKv M_X9_tellPromise M_X9_isBroken 104 2 9 107 := ⟨99, by decide +kernel, wd_m9_99, ok_M_X9_isBroken, wd_s9_isBroken, rfl⟩
theorem r_9_tellPromise_107 : RB M_X9_tellPromise 107 (.ifCond .eq) 114 110 := ⟨7, by decide +kernel, rfl, rfl⟩
theorem r_9_tellPromise_114 : RC M_X9_tellPromise 114 0 115 := ⟨⟨by decide, by decide⟩, Or.inl ⟨by decide +kernel, rfl⟩⟩
theorem r_9_tellPromise_115 : RW M_X9_tellPromise 115 .ireturn 116 1 := ⟨by decide +kernel, rfl⟩
theorem r_9_tellPromise_110 : RC M_X9_tellPromise 110 1 111 := ⟨⟨by decide, by decide⟩, Or.inl ⟨by decide +kernel, rfl⟩⟩
theorem r_9_tellPromise_111 : RB M_X9_tellPromise 111 .goto 115 114 := ⟨4, by decide +kernel, rfl, rfl⟩
theorem r_9_tellPromise_116 : RC M_X9_tellPromise 116 (-1) 117 := ⟨⟨by decide, by decide⟩, Or.inl ⟨by decide +kernel, rfl⟩⟩
theorem r_9_tellPromise_117 : RW M_X9_tellPromise 117 .ireturn 118 1 := ⟨by decide +kernel, rfl⟩
theorem r_12_ofPromise_0 : RL M_X12_ofPromise 0 1 1 := Or.inl ⟨1, by decide +kernel, rfl, rfl⟩
theorem r_12_ofPromise_1 : RB M_X12_ofPromise 1 (.ifCond .lt) 12 4 := ⟨11, by decide +kernel, rfl, rfl⟩
theorem r_12_ofPromise_12 : RC M_X12_ofPromise 12 (-1) 13 := ⟨⟨by decide, by decide⟩, Or.inl ⟨by decide +kernel, rfl⟩⟩
theorem r_12_ofPromise_13 : RW M_X12_ofPromise 13 .ireturn 14 1 := ⟨by decide +kernel, rfl⟩
theorem r_12_ofPromise_4 : RL M_X12_ofPromise 4 1 5 := Or.inl ⟨1, by decide +kernel, rfl, rfl⟩
theorem r_12_ofPromise_5 : RA M_X12_ofPromise 5 0 6 := Or.inl ⟨0, by decide +kernel, rfl, rfl⟩
theorem r_12_ofPromise_6 : RG M_X12_ofPromise 6 12 34 9 := ⟨309, _, by decide +kernel, rfl, by decide, wd_f12_309, rfl, rfl⟩
theorem r_12_ofPromise_9 : RB M_X12_ofPromise 9 (.if_icmp .lt) 14 12 := ⟨5, by decide +kernel, rfl, rfl⟩
theorem r_12_ofPromise_14 : RL M_X12_ofPromise 14 2 15 := Or.inl ⟨2, by decide +kernel, rfl, rfl⟩
theorem r_12_ofPromise_15 : RTS M_X12_ofPromise 15 [(0, 48), (1, 55), (2, 62), (3, 69), (4, 75)] 93 := ⟨78, 0, 4, #[33, 40, 47, 54, 60], 33, by decide +kernel, by decide, rfl, by decide⟩
theorem r_12_ofPromise_48 : RA M_X12_ofPromise 48 0 49 := Or.inl ⟨0, by decide +kernel, rfl, rfl⟩
theorem r_12_ofPromise_49 : RG M_X12_ofPromise 49 12 30 52 := ⟨82, _, by decide +kernel, rfl, by decide, wd_f12_82, rfl, rfl⟩
theorem r_12_ofPromise_52 : RL M_X12_ofPromise 52 1 53 := Or.inl ⟨1, by decide +kernel, rfl, rfl⟩
theorem r_12_ofPromise_53 : RW M_X12_ofPromise 53 .iaload 54 1 := ⟨by decide +kernel, rfl⟩
theorem r_12_ofPromise_54 : RW M_X12_ofPromise 54 .ireturn 55 1 := ⟨by decide +kernel, rfl⟩
theorem r_12_ofPromise_55 : RA M_X12_ofPromise 55 0 56 := Or.inl ⟨0, by decide +kernel, rfl, rfl⟩
theorem r_12_ofPromise_56 : RG M_X12_ofPromise 56 12 31 59 := ⟨85, _, by decide +kernel, rfl, by decide, wd_f12_85, rfl, rfl⟩
theorem r_12_ofPromise_59 : RL M_X12_ofPromise 59 1 60 := Or.inl ⟨1, by decide +kernel, rfl, rfl⟩
theorem r_12_ofPromise_60 : RW M_X12_ofPromise 60 .iaload 61 1 := ⟨by decide +kernel, rfl⟩
theorem r_12_ofPromise_61 : RW M_X12_ofPromise 61 .ireturn 62 1 := ⟨by decide +kernel, rfl⟩
theorem r_12_ofPromise_62 : RA M_X12_ofPromise 62 0 63 := Or.inl ⟨0, by decide +kernel, rfl, rfl⟩
theorem r_12_ofPromise_63 : RG M_X12_ofPromise 63 12 33 66 := ⟨91, _, by decide +kernel, rfl, by decide, wd_f12_91, rfl, rfl⟩
theorem r_12_ofPromise_66 : RL M_X12_ofPromise 66 1 67 := Or.inl ⟨1, by decide +kernel, rfl, rfl⟩
theorem r_12_ofPromise_67 : RW M_X12_ofPromise 67 .iaload 68 1 := ⟨by decide +kernel, rfl⟩
theorem r_12_ofPromise_68 : RW M_X12_ofPromise 68 .ireturn 69 1 := ⟨by decide +kernel, rfl⟩
theorem r_12_ofPromise_69 : RA M_X12_ofPromise 69 0 70 := Or.inl ⟨0, by decide +kernel, rfl, rfl⟩
theorem r_12_ofPromise_70 : RL M_X12_ofPromise 70 1 71 := Or.inl ⟨1, by decide +kernel, rfl, rfl⟩
theorem r_12_ofPromise_71 : RKv M_X12_ofPromise M_X12_doneOf 71 1 12 74 := ⟨312, by decide +kernel, wd_m12_312, ok_M_X12_doneOf, wd_s12_doneOf, rfl⟩
theorem r_12_ofPromise_74 : RW M_X12_ofPromise 74 .ireturn 75 1 := ⟨by decide +kernel, rfl⟩
theorem r_12_ofPromise_75 : RA M_X12_ofPromise 75 0 76 := Or.inl ⟨0, by decide +kernel, rfl, rfl⟩
theorem r_12_ofPromise_76 : RL M_X12_ofPromise 76 1 77 := Or.inl ⟨1, by decide +kernel, rfl, rfl⟩
theorem r_12_ofPromise_77 : RA M_X12_ofPromise 77 0 78 := Or.inl ⟨0, by decide +kernel, rfl, rfl⟩
theorem r_12_ofPromise_78 : RG M_X12_ofPromise 78 12 0 81 := ⟨268, _, by decide +kernel, rfl, by decide, wd_f12_268, rfl, rfl⟩
theorem r_12_ofPromise_81 : RKv M_X12_ofPromise M_X12_isBroken 81 2 12 84 := ⟨315, by decide +kernel, wd_m12_315, ok_M_X12_isBroken, wd_s12_isBroken, rfl⟩
theorem r_12_ofPromise_84 : RB M_X12_ofPromise 84 (.ifCond .eq) 91 87 := ⟨7, by decide +kernel, rfl, rfl⟩
theorem r_12_ofPromise_91 : RC M_X12_ofPromise 91 0 92 := ⟨⟨by decide, by decide⟩, Or.inl ⟨by decide +kernel, rfl⟩⟩
theorem r_12_ofPromise_92 : RW M_X12_ofPromise 92 .ireturn 93 1 := ⟨by decide +kernel, rfl⟩
theorem r_12_ofPromise_87 : RC M_X12_ofPromise 87 1 88 := ⟨⟨by decide, by decide⟩, Or.inl ⟨by decide +kernel, rfl⟩⟩
theorem r_12_ofPromise_88 : RB M_X12_ofPromise 88 .goto 92 91 := ⟨4, by decide +kernel, rfl, rfl⟩
theorem r_12_ofPromise_93 : RC M_X12_ofPromise 93 (-1) 94 := ⟨⟨by decide, by decide⟩, Or.inl ⟨by decide +kernel, rfl⟩⟩
theorem r_12_ofPromise_94 : RW M_X12_ofPromise 94 .ireturn 95 1 := ⟨by decide +kernel, rfl⟩
theorem r_11_fact_0 : RA M_X11_fact 0 0 1 := Or.inl ⟨0, by decide +kernel, rfl, rfl⟩
theorem r_11_fact_1 : RG M_X11_fact 1 11 2 4 := ⟨30, _, by decide +kernel, rfl, by decide, wd_f11_30, rfl, rfl⟩
theorem r_11_fact_4 : RL M_X11_fact 4 1 5 := Or.inl ⟨1, by decide +kernel, rfl, rfl⟩
theorem r_11_fact_5 : RL M_X11_fact 5 2 6 := Or.inl ⟨2, by decide +kernel, rfl, rfl⟩
theorem r_11_fact_6 : RL M_X11_fact 6 3 7 := Or.inl ⟨3, by decide +kernel, rfl, rfl⟩
theorem r_11_fact_7 : RKv M_X11_fact M_X9_addFact 7 3 9 10 := ⟨119, by decide +kernel, wd_m11_119, ok_M_X9_addFact, wd_s9_addFact, rfl⟩
theorem r_11_fact_10 : RW M_X11_fact 10 .ireturn 11 1 := ⟨by decide +kernel, rfl⟩
theorem r_11_letter_0 : RA M_X11_letter 0 0 1 := Or.inl ⟨0, by decide +kernel, rfl, rfl⟩
theorem r_11_letter_1 : RG M_X11_letter 1 11 2 4 := ⟨30, _, by decide +kernel, rfl, by decide, wd_f11_30, rfl, rfl⟩
theorem r_11_letter_4 : RKv M_X11_letter M_X9_addLetter 4 0 9 7 := ⟨122, by decide +kernel, wd_m11_122, ok_M_X9_addLetter, wd_s9_addLetter, rfl⟩
theorem r_11_letter_7 : RW M_X11_letter 7 .ireturn 8 1 := ⟨by decide +kernel, rfl⟩
theorem r_11_known_0 : RA M_X11_known 0 0 1 := Or.inl ⟨0, by decide +kernel, rfl, rfl⟩
theorem r_11_known_1 : RG M_X11_known 1 11 2 4 := ⟨30, _, by decide +kernel, rfl, by decide, wd_f11_30, rfl, rfl⟩
theorem r_11_known_4 : RL M_X11_known 4 1 5 := Or.inl ⟨1, by decide +kernel, rfl, rfl⟩
theorem r_11_known_5 : RL M_X11_known 5 2 6 := Or.inl ⟨2, by decide +kernel, rfl, rfl⟩
theorem r_11_known_6 : RL M_X11_known 6 3 7 := Or.inl ⟨3, by decide +kernel, rfl, rfl⟩
theorem r_11_known_7 : RL M_X11_known 7 4 9 := Or.inr ⟨by decide +kernel, rfl⟩
theorem r_11_known_9 : RKv M_X11_known M_X9_tellKnown 9 4 9 12 := ⟨126, by decide +kernel, wd_m11_126, ok_M_X9_tellKnown, wd_s9_tellKnown, rfl⟩
theorem r_11_known_12 : RW M_X11_known 12 .ireturn 13 1 := ⟨by decide +kernel, rfl⟩
theorem r_11_promise_0 : RA M_X11_promise 0 0 1 := Or.inl ⟨0, by decide +kernel, rfl, rfl⟩
theorem r_11_promise_1 : RG M_X11_promise 1 11 2 4 := ⟨30, _, by decide +kernel, rfl, by decide, wd_f11_30, rfl, rfl⟩
theorem r_11_promise_4 : RL M_X11_promise 4 1 5 := Or.inl ⟨1, by decide +kernel, rfl, rfl⟩
theorem r_11_promise_5 : RL M_X11_promise 5 2 6 := Or.inl ⟨2, by decide +kernel, rfl, rfl⟩
theorem r_11_promise_6 : RL M_X11_promise 6 3 7 := Or.inl ⟨3, by decide +kernel, rfl, rfl⟩
theorem r_11_promise_7 : RKv M_X11_promise M_X9_addPromise 7 3 9 10 := ⟨130, by decide +kernel, wd_m11_130, ok_M_X9_addPromise, wd_s9_addPromise, rfl⟩
theorem r_11_promise_10 : RW M_X11_promise 10 .ireturn 11 1 := ⟨by decide +kernel, rfl⟩
theorem r_11_ofPromise_0 : RA M_X11_ofPromise 0 0 1 := Or.inl ⟨0, by decide +kernel, rfl, rfl⟩
theorem r_11_ofPromise_1 : RG M_X11_ofPromise 1 11 2 4 := ⟨30, _, by decide +kernel, rfl, by decide, wd_f11_30, rfl, rfl⟩
theorem r_11_ofPromise_4 : RL M_X11_ofPromise 4 1 5 := Or.inl ⟨1, by decide +kernel, rfl, rfl⟩
theorem r_11_ofPromise_5 : RL M_X11_ofPromise 5 2 6 := Or.inl ⟨2, by decide +kernel, rfl, rfl⟩
theorem r_11_ofPromise_6 : RKv M_X11_ofPromise M_X9_tellPromise 6 2 9 9 := ⟨133, by decide +kernel, wd_m11_133, ok_M_X9_tellPromise, wd_s9_tellPromise, rfl⟩
theorem r_11_ofPromise_9 : RW M_X11_ofPromise 9 .ireturn 10 1 := ⟨by decide +kernel, rfl⟩
theorem r_11_broken_0 : RA M_X11_broken 0 0 1 := Or.inl ⟨0, by decide +kernel, rfl, rfl⟩
theorem r_11_broken_1 : RG M_X11_broken 1 11 2 4 := ⟨30, _, by decide +kernel, rfl, by decide, wd_f11_30, rfl, rfl⟩
theorem r_11_broken_4 : RL M_X11_broken 4 1 5 := Or.inl ⟨1, by decide +kernel, rfl, rfl⟩
theorem r_11_broken_5 : RL M_X11_broken 5 2 6 := Or.inl ⟨2, by decide +kernel, rfl, rfl⟩
theorem r_11_broken_6 : RKv M_X11_broken M_X9_tellBroken 6 2 9 9 := ⟨136, by decide +kernel, wd_m11_136, ok_M_X9_tellBroken, wd_s9_tellBroken, rfl⟩
theorem r_11_broken_9 : RW M_X11_broken 9 .ireturn 10 1 := ⟨by decide +kernel, rfl⟩
set_option maxRecDepth 10000 in
theorem sp_X9_addFact {l : Launch} {w : Wo} {d : Nat} {G : PH} {P : Option PV → PH → Prop} {p s v : Int} (hp : ∀ i, 0 ≤ i → i < (gF G 1 0 1) → gD G 30 0 i = some (3, i)) (hsz : 0 ≤ (gF G 1 0 1) ∧ (gF G 1 0 1) ≤ 150) (hf : 0 ≤ (gF G 9 0 0) ∧ (gF G 9 0 0) ≤ 300) (hday : 0 ≤ (gF G 1 0 2) ∧ (gF G 1 0 2) ≤ 600) (h1 : ¬ ((0 ≤ p ∧ p < (gF G 1 0 1)) ∧ (0 ≤ s ∧ s ≤ 2) ∧ 0 ≤ v ∧ v ≤ 1) → P (some (vI (-1))) G) (h2 : (((0 ≤ p ∧ p < (gF G 1 0 1)) ∧ (0 ≤ s ∧ s ≤ 2) ∧ 0 ≤ v ∧ v ≤ 1)) → (s = 0 ∧ (gF G 3 (p) 8) ≠ 0) → P (some (vI (-3))) G) (h3 : (((0 ≤ p ∧ p < (gF G 1 0 1)) ∧ (0 ≤ s ∧ s ≤ 2) ∧ 0 ≤ v ∧ v ≤ 1)) → (¬ (s = 0 ∧ (gF G 3 (p) 8) ≠ 0)) → (300 ≤ (gF G 9 0 0)) → P (some (vI (-2))) G) (h4 : (((0 ≤ p ∧ p < (gF G 1 0 1)) ∧ (0 ≤ s ∧ s ≤ 2) ∧ 0 ≤ v ∧ v ≤ 1)) → (¬ (s = 0 ∧ (gF G 3 (p) 8) ≠ 0)) → ((gF G 9 0 0) < 300) → ∀ vv cc, ((s = 0 ∧ vv = (gF G 3 (p) 6)) ∨ (s ≠ 0 ∧ vv = v)) → (((gF G 9 0 9) = (gF G 1 0 2) ∧ cc = (gF G 1 0 2) + 7) ∨ ((gF G 9 0 9) ≠ (gF G 1 0 2) ∧ cc = 1000000000)) → P (some (vI ((gF G 9 0 0) + 1))) (sF (sA (sA (sA (sA (sA G 83 0 ((gF G 9 0 0)) (p)) 84 0 ((gF G 9 0 0)) (s)) 85 0 ((gF G 9 0 0)) (vv)) 86 0 ((gF G 9 0 0)) ((gF G 1 0 2))) 87 0 ((gF G 9 0 0)) (cc)) 9 0 0 ((gF G 9 0 0) + 1))) : PW l w M_X9_addFact (d + 1) 0 [some (vR 9 (0)), some (vI (p)), some (vI (s)), some (vI (v)), none] [] G P := by
  refine pw_aload r_9_addFact_0 rfl ?_
  refine pw_getR r_9_addFact_1 fs_9_3 (by decide) ?_
  refine pw_iload r_9_addFact_4 rfl ?_
  refine pw_callV (av := [vI (p)]) (st := []) (ls0 := [some (vR 1 (0)), some (vI (p))]) r_9_addFact_5 rfl rfl rfl (Nat.le_refl _) ?_
  refine sp_X1_get (by first | assumption | exact hp | omega) (by first | assumption | exact hsz | omega) ?_ ?_
  · skip
    intros
    refine pw_astore (ls' := [some (vR 9 (0)), some (vI (p)), some (vI (s)), some (vI (v)), some (vN)]) r_9_addFact_8 rfl rfl ?_
    refine pw_aload r_9_addFact_10 rfl ?_
    refine pw_ifnull r_9_addFact_12 (fun _ => ?_) (fun _ q => by cases q)
    refine pw_const r_9_addFact_33 ?_
    refine pw_iret r_9_addFact_34 rfl (Nat.le_refl _) ⟨rfl, ?_⟩
    first | exact h1 (by omega) | exact h2 (by omega) (by omega) | exact h3 (by omega) (by omega) (by omega) | exact pe (h4 (by omega) (by omega) (by omega) _ _ (by omega) (by omega)) (by first | rfl | omega)
  · skip
    intros
    refine pw_astore (ls' := [some (vR 9 (0)), some (vI (p)), some (vI (s)), some (vI (v)), some (vR 3 (p))]) r_9_addFact_8 rfl rfl ?_
    refine pw_aload r_9_addFact_10 rfl ?_
    refine pw_ifnull r_9_addFact_12 (fun q => by cases q) (fun _ _ => ?_)
    refine pw_iload r_9_addFact_15 rfl ?_
    refine pw_const r_9_addFact_16 ?_
    refine pw_const r_9_addFact_17 ?_
    refine pw_callS (av := [vI (s), vI (0), vI (2)]) (st := []) (ls0 := [some (vI (s)), some (vI (0)), some (vI (2))]) r_9_addFact_18 rfl rfl rfl (Nat.le_refl _) ?_
    refine sp_X11_within  ?_
    refine pw_if_eqB r_9_addFact_21 (fun h21 => ?_) (fun h21 => ?_)
    · skip
      refine pw_const r_9_addFact_33 ?_
      refine pw_iret r_9_addFact_34 rfl (Nat.le_refl _) ⟨rfl, ?_⟩
      first | exact h1 (by omega) | exact h2 (by omega) (by omega) | exact h3 (by omega) (by omega) (by omega) | exact pe (h4 (by omega) (by omega) (by omega) _ _ (by omega) (by omega)) (by first | rfl | omega)
    · skip
      refine pw_iload r_9_addFact_24 rfl ?_
      refine pw_const r_9_addFact_25 ?_
      refine pw_const r_9_addFact_26 ?_
      refine pw_callS (av := [vI (v), vI (0), vI (1)]) (st := []) (ls0 := [some (vI (v)), some (vI (0)), some (vI (1))]) r_9_addFact_27 rfl rfl rfl (Nat.le_refl _) ?_
      refine sp_X11_within  ?_
      refine pw_if_neB r_9_addFact_30 (fun h30 => ?_) (fun h30 => ?_)
      · skip
        refine pw_iload r_9_addFact_35 rfl ?_
        refine pw_if_ne r_9_addFact_36 (fun h36 => ?_) (fun h36 => ?_)
        · skip
          refine pw_aload r_9_addFact_50 rfl ?_
          refine pw_getI r_9_addFact_51 fs_9_0 (by decide) ?_
          refine pw_const r_9_addFact_54 ?_
          refine pw_icmp_lt r_9_addFact_57 (fun h57 => ?_) (fun h57 => ?_)
          · skip
            refine pw_aload r_9_addFact_63 rfl ?_
            refine pw_getR r_9_addFact_64 fs_9_4 (by decide) ?_
            refine pw_aload r_9_addFact_67 rfl ?_
            refine pw_getI r_9_addFact_68 fs_9_0 (by decide) ?_
            refine pw_iload r_9_addFact_71 rfl ?_
            refine pw_iast r_9_addFact_72 sh83 (by omega) (by omega) ?_
            refine pw_aload r_9_addFact_73 rfl ?_
            refine pw_getR r_9_addFact_74 fs_9_5 (by decide) ?_
            refine pw_aload r_9_addFact_77 rfl ?_
            refine pw_getIv (v := gF G 9 (0) 0) r_9_addFact_78 fs_9_0 (by decide) (by first | rfl | simp [gF_sF, gF_sA, gF_uA, gF_sD, gA_sF, gA_sA, gA_uA, gA_sD, gD_sF, gD_sA, gD_uA, gD_sD]) ?_
            refine pw_iload r_9_addFact_81 rfl ?_
            refine pw_iast r_9_addFact_82 sh84 (by omega) (by omega) ?_
            refine pw_aload r_9_addFact_83 rfl ?_
            refine pw_getR r_9_addFact_84 fs_9_6 (by decide) ?_
            refine pw_aload r_9_addFact_87 rfl ?_
            refine pw_getIv (v := gF G 9 (0) 0) r_9_addFact_88 fs_9_0 (by decide) (by first | rfl | simp [gF_sF, gF_sA, gF_uA, gF_sD, gA_sF, gA_sA, gA_uA, gA_sD, gD_sF, gD_sA, gD_uA, gD_sD]) ?_
            refine pw_iload r_9_addFact_91 rfl ?_
            refine pw_if_ne r_9_addFact_92 (fun h92 => ?_) (fun h92 => ?_)
            · skip
              refine pw_iload r_9_addFact_103 rfl ?_
              refine pw_iast r_9_addFact_104 sh85 (by omega) (by omega) ?_
              refine pw_aload r_9_addFact_105 rfl ?_
              refine pw_getR r_9_addFact_106 fs_9_7 (by decide) ?_
              refine pw_aload r_9_addFact_109 rfl ?_
              refine pw_getIv (v := gF G 9 (0) 0) r_9_addFact_110 fs_9_0 (by decide) (by first | rfl | simp [gF_sF, gF_sA, gF_uA, gF_sD, gA_sF, gA_sA, gA_uA, gA_sD, gD_sF, gD_sA, gD_uA, gD_sD]) ?_
              refine pw_aload r_9_addFact_113 rfl ?_
              refine pw_getR r_9_addFact_114 fs_9_3 (by decide) ?_
              refine pw_getIv (v := gF G 1 (0) 2) r_9_addFact_117 fs_1_2 (by decide) (by first | rfl | simp [gF_sF, gF_sA, gF_uA, gF_sD, gA_sF, gA_sA, gA_uA, gA_sD, gD_sF, gD_sA, gD_uA, gD_sD]) ?_
              refine pw_iast r_9_addFact_120 sh86 (by omega) (by omega) ?_
              refine pw_aload r_9_addFact_121 rfl ?_
              refine pw_getR r_9_addFact_122 fs_9_8 (by decide) ?_
              refine pw_aload r_9_addFact_125 rfl ?_
              refine pw_getIv (v := gF G 9 (0) 0) r_9_addFact_126 fs_9_0 (by decide) (by first | rfl | simp [gF_sF, gF_sA, gF_uA, gF_sD, gA_sF, gA_sA, gA_uA, gA_sD, gD_sF, gD_sA, gD_uA, gD_sD]) ?_
              refine pw_aload r_9_addFact_129 rfl ?_
              refine pw_getIv (v := gF G 9 (0) 9) r_9_addFact_130 fs_9_9 (by decide) (by first | rfl | simp [gF_sF, gF_sA, gF_uA, gF_sD, gA_sF, gA_sA, gA_uA, gA_sD, gD_sF, gD_sA, gD_uA, gD_sD]) ?_
              refine pw_aload r_9_addFact_133 rfl ?_
              refine pw_getR r_9_addFact_134 fs_9_3 (by decide) ?_
              refine pw_getIv (v := gF G 1 (0) 2) r_9_addFact_137 fs_1_2 (by decide) (by first | rfl | simp [gF_sF, gF_sA, gF_uA, gF_sD, gA_sF, gA_sA, gA_uA, gA_sD, gD_sF, gD_sA, gD_uA, gD_sD]) ?_
              refine pw_icmp_ne r_9_addFact_140 (fun h140 => ?_) (fun h140 => ?_)
              · skip
                refine pw_const r_9_addFact_156 ?_
                refine pw_iast r_9_addFact_158 sh87 (by omega) (by omega) ?_
                refine pw_aload r_9_addFact_159 rfl ?_
                refine pw_dup r_9_addFact_160 rfl ?_
                refine pw_getIv (v := gF G 9 (0) 0) r_9_addFact_161 fs_9_0 (by decide) (by first | rfl | simp [gF_sF, gF_sA, gF_uA, gF_sD, gA_sF, gA_sA, gA_uA, gA_sD, gD_sF, gD_sA, gD_uA, gD_sD]) ?_
                refine pw_const r_9_addFact_164 ?_
                refine pw_iadd r_9_addFact_165 (by omega) ?_
                refine pw_putI r_9_addFact_166 (by decide +kernel) fs_9_0 (by decide) ?_
                refine pw_aload r_9_addFact_169 rfl ?_
                refine pw_getIv (v := ((gF G 9 (0) 0) + 1)) r_9_addFact_170 fs_9_0 (by decide) (by first | rfl | simp [gF_sF, gF_sA, gF_uA, gF_sD, gA_sF, gA_sA, gA_uA, gA_sD, gD_sF, gD_sA, gD_uA, gD_sD]) ?_
                refine pw_iret r_9_addFact_173 rfl (Nat.le_refl _) ⟨rfl, ?_⟩
                first | exact h1 (by omega) | exact h2 (by omega) (by omega) | exact h3 (by omega) (by omega) (by omega) | exact pe (h4 (by omega) (by omega) (by omega) _ _ (by omega) (by omega)) (by first | rfl | omega)
              · skip
                refine pw_aload r_9_addFact_143 rfl ?_
                refine pw_getR r_9_addFact_144 fs_9_3 (by decide) ?_
                refine pw_getIv (v := gF G 1 (0) 2) r_9_addFact_147 fs_1_2 (by decide) (by first | rfl | simp [gF_sF, gF_sA, gF_uA, gF_sD, gA_sF, gA_sA, gA_uA, gA_sD, gD_sF, gD_sA, gD_uA, gD_sD]) ?_
                refine pw_const r_9_addFact_150 ?_
                refine pw_iadd r_9_addFact_152 (by omega) ?_
                refine pw_goto r_9_addFact_153 ?_
                refine pw_iast r_9_addFact_158 sh87 (by omega) (by omega) ?_
                refine pw_aload r_9_addFact_159 rfl ?_
                refine pw_dup r_9_addFact_160 rfl ?_
                refine pw_getIv (v := gF G 9 (0) 0) r_9_addFact_161 fs_9_0 (by decide) (by first | rfl | simp [gF_sF, gF_sA, gF_uA, gF_sD, gA_sF, gA_sA, gA_uA, gA_sD, gD_sF, gD_sA, gD_uA, gD_sD]) ?_
                refine pw_const r_9_addFact_164 ?_
                refine pw_iadd r_9_addFact_165 (by omega) ?_
                refine pw_putI r_9_addFact_166 (by decide +kernel) fs_9_0 (by decide) ?_
                refine pw_aload r_9_addFact_169 rfl ?_
                refine pw_getIv (v := ((gF G 9 (0) 0) + 1)) r_9_addFact_170 fs_9_0 (by decide) (by first | rfl | simp [gF_sF, gF_sA, gF_uA, gF_sD, gA_sF, gA_sA, gA_uA, gA_sD, gD_sF, gD_sA, gD_uA, gD_sD]) ?_
                refine pw_iret r_9_addFact_173 rfl (Nat.le_refl _) ⟨rfl, ?_⟩
                first | exact h1 (by omega) | exact h2 (by omega) (by omega) | exact h3 (by omega) (by omega) (by omega) | exact pe (h4 (by omega) (by omega) (by omega) _ _ (by omega) (by omega)) (by first | rfl | omega)
            · skip
              refine pw_aload r_9_addFact_95 rfl ?_
              refine pw_getIv (v := gF G 3 (p) 6) r_9_addFact_97 fs_3_6 (by decide) (by first | rfl | simp [gF_sF, gF_sA, gF_uA, gF_sD, gA_sF, gA_sA, gA_uA, gA_sD, gD_sF, gD_sA, gD_uA, gD_sD]) ?_
              refine pw_goto r_9_addFact_100 ?_
              refine pw_iast r_9_addFact_104 sh85 (by omega) (by omega) ?_
              refine pw_aload r_9_addFact_105 rfl ?_
              refine pw_getR r_9_addFact_106 fs_9_7 (by decide) ?_
              refine pw_aload r_9_addFact_109 rfl ?_
              refine pw_getIv (v := gF G 9 (0) 0) r_9_addFact_110 fs_9_0 (by decide) (by first | rfl | simp [gF_sF, gF_sA, gF_uA, gF_sD, gA_sF, gA_sA, gA_uA, gA_sD, gD_sF, gD_sA, gD_uA, gD_sD]) ?_
              refine pw_aload r_9_addFact_113 rfl ?_
              refine pw_getR r_9_addFact_114 fs_9_3 (by decide) ?_
              refine pw_getIv (v := gF G 1 (0) 2) r_9_addFact_117 fs_1_2 (by decide) (by first | rfl | simp [gF_sF, gF_sA, gF_uA, gF_sD, gA_sF, gA_sA, gA_uA, gA_sD, gD_sF, gD_sA, gD_uA, gD_sD]) ?_
              refine pw_iast r_9_addFact_120 sh86 (by omega) (by omega) ?_
              refine pw_aload r_9_addFact_121 rfl ?_
              refine pw_getR r_9_addFact_122 fs_9_8 (by decide) ?_
              refine pw_aload r_9_addFact_125 rfl ?_
              refine pw_getIv (v := gF G 9 (0) 0) r_9_addFact_126 fs_9_0 (by decide) (by first | rfl | simp [gF_sF, gF_sA, gF_uA, gF_sD, gA_sF, gA_sA, gA_uA, gA_sD, gD_sF, gD_sA, gD_uA, gD_sD]) ?_
              refine pw_aload r_9_addFact_129 rfl ?_
              refine pw_getIv (v := gF G 9 (0) 9) r_9_addFact_130 fs_9_9 (by decide) (by first | rfl | simp [gF_sF, gF_sA, gF_uA, gF_sD, gA_sF, gA_sA, gA_uA, gA_sD, gD_sF, gD_sA, gD_uA, gD_sD]) ?_
              refine pw_aload r_9_addFact_133 rfl ?_
              refine pw_getR r_9_addFact_134 fs_9_3 (by decide) ?_
              refine pw_getIv (v := gF G 1 (0) 2) r_9_addFact_137 fs_1_2 (by decide) (by first | rfl | simp [gF_sF, gF_sA, gF_uA, gF_sD, gA_sF, gA_sA, gA_uA, gA_sD, gD_sF, gD_sA, gD_uA, gD_sD]) ?_
              refine pw_icmp_ne r_9_addFact_140 (fun h140 => ?_) (fun h140 => ?_)
              · skip
                refine pw_const r_9_addFact_156 ?_
                refine pw_iast r_9_addFact_158 sh87 (by omega) (by omega) ?_
                refine pw_aload r_9_addFact_159 rfl ?_
                refine pw_dup r_9_addFact_160 rfl ?_
                refine pw_getIv (v := gF G 9 (0) 0) r_9_addFact_161 fs_9_0 (by decide) (by first | rfl | simp [gF_sF, gF_sA, gF_uA, gF_sD, gA_sF, gA_sA, gA_uA, gA_sD, gD_sF, gD_sA, gD_uA, gD_sD]) ?_
                refine pw_const r_9_addFact_164 ?_
                refine pw_iadd r_9_addFact_165 (by omega) ?_
                refine pw_putI r_9_addFact_166 (by decide +kernel) fs_9_0 (by decide) ?_
                refine pw_aload r_9_addFact_169 rfl ?_
                refine pw_getIv (v := ((gF G 9 (0) 0) + 1)) r_9_addFact_170 fs_9_0 (by decide) (by first | rfl | simp [gF_sF, gF_sA, gF_uA, gF_sD, gA_sF, gA_sA, gA_uA, gA_sD, gD_sF, gD_sA, gD_uA, gD_sD]) ?_
                refine pw_iret r_9_addFact_173 rfl (Nat.le_refl _) ⟨rfl, ?_⟩
                first | exact h1 (by omega) | exact h2 (by omega) (by omega) | exact h3 (by omega) (by omega) (by omega) | exact pe (h4 (by omega) (by omega) (by omega) _ _ (by omega) (by omega)) (by first | rfl | omega)
              · skip
                refine pw_aload r_9_addFact_143 rfl ?_
                refine pw_getR r_9_addFact_144 fs_9_3 (by decide) ?_
                refine pw_getIv (v := gF G 1 (0) 2) r_9_addFact_147 fs_1_2 (by decide) (by first | rfl | simp [gF_sF, gF_sA, gF_uA, gF_sD, gA_sF, gA_sA, gA_uA, gA_sD, gD_sF, gD_sA, gD_uA, gD_sD]) ?_
                refine pw_const r_9_addFact_150 ?_
                refine pw_iadd r_9_addFact_152 (by omega) ?_
                refine pw_goto r_9_addFact_153 ?_
                refine pw_iast r_9_addFact_158 sh87 (by omega) (by omega) ?_
                refine pw_aload r_9_addFact_159 rfl ?_
                refine pw_dup r_9_addFact_160 rfl ?_
                refine pw_getIv (v := gF G 9 (0) 0) r_9_addFact_161 fs_9_0 (by decide) (by first | rfl | simp [gF_sF, gF_sA, gF_uA, gF_sD, gA_sF, gA_sA, gA_uA, gA_sD, gD_sF, gD_sA, gD_uA, gD_sD]) ?_
                refine pw_const r_9_addFact_164 ?_
                refine pw_iadd r_9_addFact_165 (by omega) ?_
                refine pw_putI r_9_addFact_166 (by decide +kernel) fs_9_0 (by decide) ?_
                refine pw_aload r_9_addFact_169 rfl ?_
                refine pw_getIv (v := ((gF G 9 (0) 0) + 1)) r_9_addFact_170 fs_9_0 (by decide) (by first | rfl | simp [gF_sF, gF_sA, gF_uA, gF_sD, gA_sF, gA_sA, gA_uA, gA_sD, gD_sF, gD_sA, gD_uA, gD_sD]) ?_
                refine pw_iret r_9_addFact_173 rfl (Nat.le_refl _) ⟨rfl, ?_⟩
                first | exact h1 (by omega) | exact h2 (by omega) (by omega) | exact h3 (by omega) (by omega) (by omega) | exact pe (h4 (by omega) (by omega) (by omega) _ _ (by omega) (by omega)) (by first | rfl | omega)
          · skip
            refine pw_const r_9_addFact_60 ?_
            refine pw_iret r_9_addFact_62 rfl (Nat.le_refl _) ⟨rfl, ?_⟩
            first | exact h1 (by omega) | exact h2 (by omega) (by omega) | exact h3 (by omega) (by omega) (by omega) | exact pe (h4 (by omega) (by omega) (by omega) _ _ (by omega) (by omega)) (by first | rfl | omega)
        · skip
          refine pw_aload r_9_addFact_39 rfl ?_
          refine pw_getI r_9_addFact_41 fs_3_8 (by decide) ?_
          refine pw_if_eq r_9_addFact_44 (fun h44 => ?_) (fun h44 => ?_)
          · skip
            refine pw_aload r_9_addFact_50 rfl ?_
            refine pw_getI r_9_addFact_51 fs_9_0 (by decide) ?_
            refine pw_const r_9_addFact_54 ?_
            refine pw_icmp_lt r_9_addFact_57 (fun h57 => ?_) (fun h57 => ?_)
            · skip
              refine pw_aload r_9_addFact_63 rfl ?_
              refine pw_getR r_9_addFact_64 fs_9_4 (by decide) ?_
              refine pw_aload r_9_addFact_67 rfl ?_
              refine pw_getI r_9_addFact_68 fs_9_0 (by decide) ?_
              refine pw_iload r_9_addFact_71 rfl ?_
              refine pw_iast r_9_addFact_72 sh83 (by omega) (by omega) ?_
              refine pw_aload r_9_addFact_73 rfl ?_
              refine pw_getR r_9_addFact_74 fs_9_5 (by decide) ?_
              refine pw_aload r_9_addFact_77 rfl ?_
              refine pw_getIv (v := gF G 9 (0) 0) r_9_addFact_78 fs_9_0 (by decide) (by first | rfl | simp [gF_sF, gF_sA, gF_uA, gF_sD, gA_sF, gA_sA, gA_uA, gA_sD, gD_sF, gD_sA, gD_uA, gD_sD]) ?_
              refine pw_iload r_9_addFact_81 rfl ?_
              refine pw_iast r_9_addFact_82 sh84 (by omega) (by omega) ?_
              refine pw_aload r_9_addFact_83 rfl ?_
              refine pw_getR r_9_addFact_84 fs_9_6 (by decide) ?_
              refine pw_aload r_9_addFact_87 rfl ?_
              refine pw_getIv (v := gF G 9 (0) 0) r_9_addFact_88 fs_9_0 (by decide) (by first | rfl | simp [gF_sF, gF_sA, gF_uA, gF_sD, gA_sF, gA_sA, gA_uA, gA_sD, gD_sF, gD_sA, gD_uA, gD_sD]) ?_
              refine pw_iload r_9_addFact_91 rfl ?_
              refine pw_if_ne r_9_addFact_92 (fun h92 => ?_) (fun h92 => ?_)
              · skip
                refine pw_iload r_9_addFact_103 rfl ?_
                refine pw_iast r_9_addFact_104 sh85 (by omega) (by omega) ?_
                refine pw_aload r_9_addFact_105 rfl ?_
                refine pw_getR r_9_addFact_106 fs_9_7 (by decide) ?_
                refine pw_aload r_9_addFact_109 rfl ?_
                refine pw_getIv (v := gF G 9 (0) 0) r_9_addFact_110 fs_9_0 (by decide) (by first | rfl | simp [gF_sF, gF_sA, gF_uA, gF_sD, gA_sF, gA_sA, gA_uA, gA_sD, gD_sF, gD_sA, gD_uA, gD_sD]) ?_
                refine pw_aload r_9_addFact_113 rfl ?_
                refine pw_getR r_9_addFact_114 fs_9_3 (by decide) ?_
                refine pw_getIv (v := gF G 1 (0) 2) r_9_addFact_117 fs_1_2 (by decide) (by first | rfl | simp [gF_sF, gF_sA, gF_uA, gF_sD, gA_sF, gA_sA, gA_uA, gA_sD, gD_sF, gD_sA, gD_uA, gD_sD]) ?_
                refine pw_iast r_9_addFact_120 sh86 (by omega) (by omega) ?_
                refine pw_aload r_9_addFact_121 rfl ?_
                refine pw_getR r_9_addFact_122 fs_9_8 (by decide) ?_
                refine pw_aload r_9_addFact_125 rfl ?_
                refine pw_getIv (v := gF G 9 (0) 0) r_9_addFact_126 fs_9_0 (by decide) (by first | rfl | simp [gF_sF, gF_sA, gF_uA, gF_sD, gA_sF, gA_sA, gA_uA, gA_sD, gD_sF, gD_sA, gD_uA, gD_sD]) ?_
                refine pw_aload r_9_addFact_129 rfl ?_
                refine pw_getIv (v := gF G 9 (0) 9) r_9_addFact_130 fs_9_9 (by decide) (by first | rfl | simp [gF_sF, gF_sA, gF_uA, gF_sD, gA_sF, gA_sA, gA_uA, gA_sD, gD_sF, gD_sA, gD_uA, gD_sD]) ?_
                refine pw_aload r_9_addFact_133 rfl ?_
                refine pw_getR r_9_addFact_134 fs_9_3 (by decide) ?_
                refine pw_getIv (v := gF G 1 (0) 2) r_9_addFact_137 fs_1_2 (by decide) (by first | rfl | simp [gF_sF, gF_sA, gF_uA, gF_sD, gA_sF, gA_sA, gA_uA, gA_sD, gD_sF, gD_sA, gD_uA, gD_sD]) ?_
                refine pw_icmp_ne r_9_addFact_140 (fun h140 => ?_) (fun h140 => ?_)
                · skip
                  refine pw_const r_9_addFact_156 ?_
                  refine pw_iast r_9_addFact_158 sh87 (by omega) (by omega) ?_
                  refine pw_aload r_9_addFact_159 rfl ?_
                  refine pw_dup r_9_addFact_160 rfl ?_
                  refine pw_getIv (v := gF G 9 (0) 0) r_9_addFact_161 fs_9_0 (by decide) (by first | rfl | simp [gF_sF, gF_sA, gF_uA, gF_sD, gA_sF, gA_sA, gA_uA, gA_sD, gD_sF, gD_sA, gD_uA, gD_sD]) ?_
                  refine pw_const r_9_addFact_164 ?_
                  refine pw_iadd r_9_addFact_165 (by omega) ?_
                  refine pw_putI r_9_addFact_166 (by decide +kernel) fs_9_0 (by decide) ?_
                  refine pw_aload r_9_addFact_169 rfl ?_
                  refine pw_getIv (v := ((gF G 9 (0) 0) + 1)) r_9_addFact_170 fs_9_0 (by decide) (by first | rfl | simp [gF_sF, gF_sA, gF_uA, gF_sD, gA_sF, gA_sA, gA_uA, gA_sD, gD_sF, gD_sA, gD_uA, gD_sD]) ?_
                  refine pw_iret r_9_addFact_173 rfl (Nat.le_refl _) ⟨rfl, ?_⟩
                  first | exact h1 (by omega) | exact h2 (by omega) (by omega) | exact h3 (by omega) (by omega) (by omega) | exact pe (h4 (by omega) (by omega) (by omega) _ _ (by omega) (by omega)) (by first | rfl | omega)
                · skip
                  refine pw_aload r_9_addFact_143 rfl ?_
                  refine pw_getR r_9_addFact_144 fs_9_3 (by decide) ?_
                  refine pw_getIv (v := gF G 1 (0) 2) r_9_addFact_147 fs_1_2 (by decide) (by first | rfl | simp [gF_sF, gF_sA, gF_uA, gF_sD, gA_sF, gA_sA, gA_uA, gA_sD, gD_sF, gD_sA, gD_uA, gD_sD]) ?_
                  refine pw_const r_9_addFact_150 ?_
                  refine pw_iadd r_9_addFact_152 (by omega) ?_
                  refine pw_goto r_9_addFact_153 ?_
                  refine pw_iast r_9_addFact_158 sh87 (by omega) (by omega) ?_
                  refine pw_aload r_9_addFact_159 rfl ?_
                  refine pw_dup r_9_addFact_160 rfl ?_
                  refine pw_getIv (v := gF G 9 (0) 0) r_9_addFact_161 fs_9_0 (by decide) (by first | rfl | simp [gF_sF, gF_sA, gF_uA, gF_sD, gA_sF, gA_sA, gA_uA, gA_sD, gD_sF, gD_sA, gD_uA, gD_sD]) ?_
                  refine pw_const r_9_addFact_164 ?_
                  refine pw_iadd r_9_addFact_165 (by omega) ?_
                  refine pw_putI r_9_addFact_166 (by decide +kernel) fs_9_0 (by decide) ?_
                  refine pw_aload r_9_addFact_169 rfl ?_
                  refine pw_getIv (v := ((gF G 9 (0) 0) + 1)) r_9_addFact_170 fs_9_0 (by decide) (by first | rfl | simp [gF_sF, gF_sA, gF_uA, gF_sD, gA_sF, gA_sA, gA_uA, gA_sD, gD_sF, gD_sA, gD_uA, gD_sD]) ?_
                  refine pw_iret r_9_addFact_173 rfl (Nat.le_refl _) ⟨rfl, ?_⟩
                  first | exact h1 (by omega) | exact h2 (by omega) (by omega) | exact h3 (by omega) (by omega) (by omega) | exact pe (h4 (by omega) (by omega) (by omega) _ _ (by omega) (by omega)) (by first | rfl | omega)
              · skip
                refine pw_aload r_9_addFact_95 rfl ?_
                refine pw_getIv (v := gF G 3 (p) 6) r_9_addFact_97 fs_3_6 (by decide) (by first | rfl | simp [gF_sF, gF_sA, gF_uA, gF_sD, gA_sF, gA_sA, gA_uA, gA_sD, gD_sF, gD_sA, gD_uA, gD_sD]) ?_
                refine pw_goto r_9_addFact_100 ?_
                refine pw_iast r_9_addFact_104 sh85 (by omega) (by omega) ?_
                refine pw_aload r_9_addFact_105 rfl ?_
                refine pw_getR r_9_addFact_106 fs_9_7 (by decide) ?_
                refine pw_aload r_9_addFact_109 rfl ?_
                refine pw_getIv (v := gF G 9 (0) 0) r_9_addFact_110 fs_9_0 (by decide) (by first | rfl | simp [gF_sF, gF_sA, gF_uA, gF_sD, gA_sF, gA_sA, gA_uA, gA_sD, gD_sF, gD_sA, gD_uA, gD_sD]) ?_
                refine pw_aload r_9_addFact_113 rfl ?_
                refine pw_getR r_9_addFact_114 fs_9_3 (by decide) ?_
                refine pw_getIv (v := gF G 1 (0) 2) r_9_addFact_117 fs_1_2 (by decide) (by first | rfl | simp [gF_sF, gF_sA, gF_uA, gF_sD, gA_sF, gA_sA, gA_uA, gA_sD, gD_sF, gD_sA, gD_uA, gD_sD]) ?_
                refine pw_iast r_9_addFact_120 sh86 (by omega) (by omega) ?_
                refine pw_aload r_9_addFact_121 rfl ?_
                refine pw_getR r_9_addFact_122 fs_9_8 (by decide) ?_
                refine pw_aload r_9_addFact_125 rfl ?_
                refine pw_getIv (v := gF G 9 (0) 0) r_9_addFact_126 fs_9_0 (by decide) (by first | rfl | simp [gF_sF, gF_sA, gF_uA, gF_sD, gA_sF, gA_sA, gA_uA, gA_sD, gD_sF, gD_sA, gD_uA, gD_sD]) ?_
                refine pw_aload r_9_addFact_129 rfl ?_
                refine pw_getIv (v := gF G 9 (0) 9) r_9_addFact_130 fs_9_9 (by decide) (by first | rfl | simp [gF_sF, gF_sA, gF_uA, gF_sD, gA_sF, gA_sA, gA_uA, gA_sD, gD_sF, gD_sA, gD_uA, gD_sD]) ?_
                refine pw_aload r_9_addFact_133 rfl ?_
                refine pw_getR r_9_addFact_134 fs_9_3 (by decide) ?_
                refine pw_getIv (v := gF G 1 (0) 2) r_9_addFact_137 fs_1_2 (by decide) (by first | rfl | simp [gF_sF, gF_sA, gF_uA, gF_sD, gA_sF, gA_sA, gA_uA, gA_sD, gD_sF, gD_sA, gD_uA, gD_sD]) ?_
                refine pw_icmp_ne r_9_addFact_140 (fun h140 => ?_) (fun h140 => ?_)
                · skip
                  refine pw_const r_9_addFact_156 ?_
                  refine pw_iast r_9_addFact_158 sh87 (by omega) (by omega) ?_
                  refine pw_aload r_9_addFact_159 rfl ?_
                  refine pw_dup r_9_addFact_160 rfl ?_
                  refine pw_getIv (v := gF G 9 (0) 0) r_9_addFact_161 fs_9_0 (by decide) (by first | rfl | simp [gF_sF, gF_sA, gF_uA, gF_sD, gA_sF, gA_sA, gA_uA, gA_sD, gD_sF, gD_sA, gD_uA, gD_sD]) ?_
                  refine pw_const r_9_addFact_164 ?_
                  refine pw_iadd r_9_addFact_165 (by omega) ?_
                  refine pw_putI r_9_addFact_166 (by decide +kernel) fs_9_0 (by decide) ?_
                  refine pw_aload r_9_addFact_169 rfl ?_
                  refine pw_getIv (v := ((gF G 9 (0) 0) + 1)) r_9_addFact_170 fs_9_0 (by decide) (by first | rfl | simp [gF_sF, gF_sA, gF_uA, gF_sD, gA_sF, gA_sA, gA_uA, gA_sD, gD_sF, gD_sA, gD_uA, gD_sD]) ?_
                  refine pw_iret r_9_addFact_173 rfl (Nat.le_refl _) ⟨rfl, ?_⟩
                  first | exact h1 (by omega) | exact h2 (by omega) (by omega) | exact h3 (by omega) (by omega) (by omega) | exact pe (h4 (by omega) (by omega) (by omega) _ _ (by omega) (by omega)) (by first | rfl | omega)
                · skip
                  refine pw_aload r_9_addFact_143 rfl ?_
                  refine pw_getR r_9_addFact_144 fs_9_3 (by decide) ?_
                  refine pw_getIv (v := gF G 1 (0) 2) r_9_addFact_147 fs_1_2 (by decide) (by first | rfl | simp [gF_sF, gF_sA, gF_uA, gF_sD, gA_sF, gA_sA, gA_uA, gA_sD, gD_sF, gD_sA, gD_uA, gD_sD]) ?_
                  refine pw_const r_9_addFact_150 ?_
                  refine pw_iadd r_9_addFact_152 (by omega) ?_
                  refine pw_goto r_9_addFact_153 ?_
                  refine pw_iast r_9_addFact_158 sh87 (by omega) (by omega) ?_
                  refine pw_aload r_9_addFact_159 rfl ?_
                  refine pw_dup r_9_addFact_160 rfl ?_
                  refine pw_getIv (v := gF G 9 (0) 0) r_9_addFact_161 fs_9_0 (by decide) (by first | rfl | simp [gF_sF, gF_sA, gF_uA, gF_sD, gA_sF, gA_sA, gA_uA, gA_sD, gD_sF, gD_sA, gD_uA, gD_sD]) ?_
                  refine pw_const r_9_addFact_164 ?_
                  refine pw_iadd r_9_addFact_165 (by omega) ?_
                  refine pw_putI r_9_addFact_166 (by decide +kernel) fs_9_0 (by decide) ?_
                  refine pw_aload r_9_addFact_169 rfl ?_
                  refine pw_getIv (v := ((gF G 9 (0) 0) + 1)) r_9_addFact_170 fs_9_0 (by decide) (by first | rfl | simp [gF_sF, gF_sA, gF_uA, gF_sD, gA_sF, gA_sA, gA_uA, gA_sD, gD_sF, gD_sA, gD_uA, gD_sD]) ?_
                  refine pw_iret r_9_addFact_173 rfl (Nat.le_refl _) ⟨rfl, ?_⟩
                  first | exact h1 (by omega) | exact h2 (by omega) (by omega) | exact h3 (by omega) (by omega) (by omega) | exact pe (h4 (by omega) (by omega) (by omega) _ _ (by omega) (by omega)) (by first | rfl | omega)
            · skip
              refine pw_const r_9_addFact_60 ?_
              refine pw_iret r_9_addFact_62 rfl (Nat.le_refl _) ⟨rfl, ?_⟩
              first | exact h1 (by omega) | exact h2 (by omega) (by omega) | exact h3 (by omega) (by omega) (by omega) | exact pe (h4 (by omega) (by omega) (by omega) _ _ (by omega) (by omega)) (by first | rfl | omega)
          · skip
            refine pw_const r_9_addFact_47 ?_
            refine pw_iret r_9_addFact_49 rfl (Nat.le_refl _) ⟨rfl, ?_⟩
            first | exact h1 (by omega) | exact h2 (by omega) (by omega) | exact h3 (by omega) (by omega) (by omega) | exact pe (h4 (by omega) (by omega) (by omega) _ _ (by omega) (by omega)) (by first | rfl | omega)
      · skip
        refine pw_const r_9_addFact_33 ?_
        refine pw_iret r_9_addFact_34 rfl (Nat.le_refl _) ⟨rfl, ?_⟩
        first | exact h1 (by omega) | exact h2 (by omega) (by omega) | exact h3 (by omega) (by omega) (by omega) | exact pe (h4 (by omega) (by omega) (by omega) _ _ (by omega) (by omega)) (by first | rfl | omega)
set_option maxRecDepth 10000 in
theorem sp_X12_fact {l : Launch} {w : Wo} {d : Nat} {G : PH} {P : Option PV → PH → Prop} {p s v : Int} (hsz : 0 ≤ (gF G 12 0 17) ∧ (gF G 12 0 17) ≤ 150) (hf : 0 ≤ (gF G 12 0 27) ∧ (gF G 12 0 27) ≤ 300) (h1 : ¬ ((0 ≤ p ∧ p < (gF G 12 0 17)) ∧ (0 ≤ s ∧ s ≤ 2) ∧ 0 ≤ v ∧ v ≤ 1) → P (some (vI (-1))) G) (h2 : (((0 ≤ p ∧ p < (gF G 12 0 17)) ∧ (0 ≤ s ∧ s ≤ 2) ∧ 0 ≤ v ∧ v ≤ 1)) → (s = 0 ∧ (gA G 206 0 (p)) ≠ 0) → P (some (vI (-3))) G) (h3 : (((0 ≤ p ∧ p < (gF G 12 0 17)) ∧ (0 ≤ s ∧ s ≤ 2) ∧ 0 ≤ v ∧ v ≤ 1)) → (¬ (s = 0 ∧ (gA G 206 0 (p)) ≠ 0)) → (300 ≤ (gF G 12 0 27)) → P (some (vI (-2))) G) (h4 : (((0 ≤ p ∧ p < (gF G 12 0 17)) ∧ (0 ≤ s ∧ s ≤ 2) ∧ 0 ≤ v ∧ v ≤ 1)) → (¬ (s = 0 ∧ (gA G 206 0 (p)) ≠ 0)) → ((gF G 12 0 27) < 300) → ∀ vv, ((s = 0 ∧ vv = (gA G 210 0 (p))) ∨ (s ≠ 0 ∧ vv = v)) → P (some (vI ((gF G 12 0 27) + 1))) (sF (sA (sA (sA (sA G 219 0 ((gF G 12 0 27)) (p)) 220 0 ((gF G 12 0 27)) (s)) 221 0 ((gF G 12 0 27)) (vv)) 222 0 ((gF G 12 0 27)) ((gF G 12 0 0))) 12 0 27 ((gF G 12 0 27) + 1))) : PW l w M_X12_fact (d + 1) 0 [some (vR 12 (0)), some (vI (p)), some (vI (s)), some (vI (v))] [] G P := by
  refine pw_aload r_12_fact_0 rfl ?_
  refine pw_iload r_12_fact_1 rfl ?_
  refine pw_callV (av := [vI (p)]) (st := []) (ls0 := [some (vR 12 (0)), some (vI (p))]) r_12_fact_2 rfl rfl rfl (Nat.le_refl _) ?_
  refine sp_X12_isPerson  ?_
  refine pw_if_eqB r_12_fact_5 (fun h05 => ?_) (fun h05 => ?_)
  · skip
    refine pw_const r_12_fact_26 ?_
    refine pw_iret r_12_fact_27 rfl (Nat.le_refl _) ⟨rfl, ?_⟩
    first | exact h1 (by omega) | exact h2 (by omega) (by omega) | exact h3 (by omega) (by omega) (by omega) | exact pe (h4 (by omega) (by omega) (by omega) _ (by omega)) (by first | rfl | omega)
  · skip
    refine pw_iload r_12_fact_8 rfl ?_
    refine pw_const r_12_fact_9 ?_
    refine pw_const r_12_fact_10 ?_
    refine pw_callS (av := [vI (s), vI (0), vI (2)]) (st := []) (ls0 := [some (vI (s)), some (vI (0)), some (vI (2))]) r_12_fact_11 rfl rfl rfl (Nat.le_refl _) ?_
    refine sp_X12_within  ?_
    refine pw_if_eqB r_12_fact_14 (fun h14 => ?_) (fun h14 => ?_)
    · skip
      refine pw_const r_12_fact_26 ?_
      refine pw_iret r_12_fact_27 rfl (Nat.le_refl _) ⟨rfl, ?_⟩
      first | exact h1 (by omega) | exact h2 (by omega) (by omega) | exact h3 (by omega) (by omega) (by omega) | exact pe (h4 (by omega) (by omega) (by omega) _ (by omega)) (by first | rfl | omega)
    · skip
      refine pw_iload r_12_fact_17 rfl ?_
      refine pw_const r_12_fact_18 ?_
      refine pw_const r_12_fact_19 ?_
      refine pw_callS (av := [vI (v), vI (0), vI (1)]) (st := []) (ls0 := [some (vI (v)), some (vI (0)), some (vI (1))]) r_12_fact_20 rfl rfl rfl (Nat.le_refl _) ?_
      refine sp_X12_within  ?_
      refine pw_if_neB r_12_fact_23 (fun h23 => ?_) (fun h23 => ?_)
      · skip
        refine pw_iload r_12_fact_28 rfl ?_
        refine pw_if_ne r_12_fact_29 (fun h29 => ?_) (fun h29 => ?_)
        · skip
          refine pw_aload r_12_fact_44 rfl ?_
          refine pw_getI r_12_fact_45 fs_12_27 (by decide) ?_
          refine pw_const r_12_fact_48 ?_
          refine pw_icmp_ne r_12_fact_51 (fun h51 => ?_) (fun h51 => ?_)
          · skip
            refine pw_aload r_12_fact_57 rfl ?_
            refine pw_getR r_12_fact_58 fs_12_23 (by decide) ?_
            refine pw_aload r_12_fact_61 rfl ?_
            refine pw_getI r_12_fact_62 fs_12_27 (by decide) ?_
            refine pw_iload r_12_fact_65 rfl ?_
            refine pw_iast r_12_fact_66 sh219 (by omega) (by omega) ?_
            refine pw_aload r_12_fact_67 rfl ?_
            refine pw_getR r_12_fact_68 fs_12_24 (by decide) ?_
            refine pw_aload r_12_fact_71 rfl ?_
            refine pw_getIv (v := gF G 12 (0) 27) r_12_fact_72 fs_12_27 (by decide) (by first | rfl | simp [gF_sF, gF_sA, gF_uA, gF_sD, gA_sF, gA_sA, gA_uA, gA_sD, gD_sF, gD_sA, gD_uA, gD_sD]) ?_
            refine pw_iload r_12_fact_75 rfl ?_
            refine pw_iast r_12_fact_76 sh220 (by omega) (by omega) ?_
            refine pw_aload r_12_fact_77 rfl ?_
            refine pw_getR r_12_fact_78 fs_12_25 (by decide) ?_
            refine pw_aload r_12_fact_81 rfl ?_
            refine pw_getIv (v := gF G 12 (0) 27) r_12_fact_82 fs_12_27 (by decide) (by first | rfl | simp [gF_sF, gF_sA, gF_uA, gF_sD, gA_sF, gA_sA, gA_uA, gA_sD, gD_sF, gD_sA, gD_uA, gD_sD]) ?_
            refine pw_iload r_12_fact_85 rfl ?_
            refine pw_if_ne r_12_fact_86 (fun h86 => ?_) (fun h86 => ?_)
            · skip
              refine pw_iload r_12_fact_98 rfl ?_
              refine pw_iast r_12_fact_99 sh221 (by omega) (by omega) ?_
              refine pw_aload r_12_fact_100 rfl ?_
              refine pw_getR r_12_fact_101 fs_12_26 (by decide) ?_
              refine pw_aload r_12_fact_104 rfl ?_
              refine pw_getIv (v := gF G 12 (0) 27) r_12_fact_105 fs_12_27 (by decide) (by first | rfl | simp [gF_sF, gF_sA, gF_uA, gF_sD, gA_sF, gA_sA, gA_uA, gA_sD, gD_sF, gD_sA, gD_uA, gD_sD]) ?_
              refine pw_aload r_12_fact_108 rfl ?_
              refine pw_getIv (v := gF G 12 (0) 0) r_12_fact_109 fs_12_0 (by decide) (by first | rfl | simp [gF_sF, gF_sA, gF_uA, gF_sD, gA_sF, gA_sA, gA_uA, gA_sD, gD_sF, gD_sA, gD_uA, gD_sD]) ?_
              refine pw_iast r_12_fact_112 sh222 (by omega) (by omega) ?_
              refine pw_aload r_12_fact_113 rfl ?_
              refine pw_dup r_12_fact_114 rfl ?_
              refine pw_getIv (v := gF G 12 (0) 27) r_12_fact_115 fs_12_27 (by decide) (by first | rfl | simp [gF_sF, gF_sA, gF_uA, gF_sD, gA_sF, gA_sA, gA_uA, gA_sD, gD_sF, gD_sA, gD_uA, gD_sD]) ?_
              refine pw_const r_12_fact_118 ?_
              refine pw_iadd r_12_fact_119 (by omega) ?_
              refine pw_putI r_12_fact_120 (by decide +kernel) fs_12_27 (by decide) ?_
              refine pw_aload r_12_fact_123 rfl ?_
              refine pw_getIv (v := ((gF G 12 (0) 27) + 1)) r_12_fact_124 fs_12_27 (by decide) (by first | rfl | simp [gF_sF, gF_sA, gF_uA, gF_sD, gA_sF, gA_sA, gA_uA, gA_sD, gD_sF, gD_sA, gD_uA, gD_sD]) ?_
              refine pw_iret r_12_fact_127 rfl (Nat.le_refl _) ⟨rfl, ?_⟩
              first | exact h1 (by omega) | exact h2 (by omega) (by omega) | exact h3 (by omega) (by omega) (by omega) | exact pe (h4 (by omega) (by omega) (by omega) _ (by omega)) (by first | rfl | omega)
            · skip
              refine pw_aload r_12_fact_89 rfl ?_
              refine pw_getR r_12_fact_90 fs_12_12 (by decide) ?_
              refine pw_iload r_12_fact_93 rfl ?_
              refine pw_ialdv (v := gA G 210 (0) (p)) r_12_fact_94 sh210 (by omega) (by omega) (by first | rfl | simp [gF_sF, gF_sA, gF_uA, gF_sD, gA_sF, gA_sA, gA_uA, gA_sD, gD_sF, gD_sA, gD_uA, gD_sD]) ?_
              refine pw_goto r_12_fact_95 ?_
              refine pw_iast r_12_fact_99 sh221 (by omega) (by omega) ?_
              refine pw_aload r_12_fact_100 rfl ?_
              refine pw_getR r_12_fact_101 fs_12_26 (by decide) ?_
              refine pw_aload r_12_fact_104 rfl ?_
              refine pw_getIv (v := gF G 12 (0) 27) r_12_fact_105 fs_12_27 (by decide) (by first | rfl | simp [gF_sF, gF_sA, gF_uA, gF_sD, gA_sF, gA_sA, gA_uA, gA_sD, gD_sF, gD_sA, gD_uA, gD_sD]) ?_
              refine pw_aload r_12_fact_108 rfl ?_
              refine pw_getIv (v := gF G 12 (0) 0) r_12_fact_109 fs_12_0 (by decide) (by first | rfl | simp [gF_sF, gF_sA, gF_uA, gF_sD, gA_sF, gA_sA, gA_uA, gA_sD, gD_sF, gD_sA, gD_uA, gD_sD]) ?_
              refine pw_iast r_12_fact_112 sh222 (by omega) (by omega) ?_
              refine pw_aload r_12_fact_113 rfl ?_
              refine pw_dup r_12_fact_114 rfl ?_
              refine pw_getIv (v := gF G 12 (0) 27) r_12_fact_115 fs_12_27 (by decide) (by first | rfl | simp [gF_sF, gF_sA, gF_uA, gF_sD, gA_sF, gA_sA, gA_uA, gA_sD, gD_sF, gD_sA, gD_uA, gD_sD]) ?_
              refine pw_const r_12_fact_118 ?_
              refine pw_iadd r_12_fact_119 (by omega) ?_
              refine pw_putI r_12_fact_120 (by decide +kernel) fs_12_27 (by decide) ?_
              refine pw_aload r_12_fact_123 rfl ?_
              refine pw_getIv (v := ((gF G 12 (0) 27) + 1)) r_12_fact_124 fs_12_27 (by decide) (by first | rfl | simp [gF_sF, gF_sA, gF_uA, gF_sD, gA_sF, gA_sA, gA_uA, gA_sD, gD_sF, gD_sA, gD_uA, gD_sD]) ?_
              refine pw_iret r_12_fact_127 rfl (Nat.le_refl _) ⟨rfl, ?_⟩
              first | exact h1 (by omega) | exact h2 (by omega) (by omega) | exact h3 (by omega) (by omega) (by omega) | exact pe (h4 (by omega) (by omega) (by omega) _ (by omega)) (by first | rfl | omega)
          · skip
            refine pw_const r_12_fact_54 ?_
            refine pw_iret r_12_fact_56 rfl (Nat.le_refl _) ⟨rfl, ?_⟩
            first | exact h1 (by omega) | exact h2 (by omega) (by omega) | exact h3 (by omega) (by omega) (by omega) | exact pe (h4 (by omega) (by omega) (by omega) _ (by omega)) (by first | rfl | omega)
        · skip
          refine pw_aload r_12_fact_32 rfl ?_
          refine pw_getR r_12_fact_33 fs_12_8 (by decide) ?_
          refine pw_iload r_12_fact_36 rfl ?_
          refine pw_iald r_12_fact_37 sh206 (by omega) (by omega) ?_
          refine pw_if_eq r_12_fact_38 (fun h38 => ?_) (fun h38 => ?_)
          · skip
            refine pw_aload r_12_fact_44 rfl ?_
            refine pw_getI r_12_fact_45 fs_12_27 (by decide) ?_
            refine pw_const r_12_fact_48 ?_
            refine pw_icmp_ne r_12_fact_51 (fun h51 => ?_) (fun h51 => ?_)
            · skip
              refine pw_aload r_12_fact_57 rfl ?_
              refine pw_getR r_12_fact_58 fs_12_23 (by decide) ?_
              refine pw_aload r_12_fact_61 rfl ?_
              refine pw_getI r_12_fact_62 fs_12_27 (by decide) ?_
              refine pw_iload r_12_fact_65 rfl ?_
              refine pw_iast r_12_fact_66 sh219 (by omega) (by omega) ?_
              refine pw_aload r_12_fact_67 rfl ?_
              refine pw_getR r_12_fact_68 fs_12_24 (by decide) ?_
              refine pw_aload r_12_fact_71 rfl ?_
              refine pw_getIv (v := gF G 12 (0) 27) r_12_fact_72 fs_12_27 (by decide) (by first | rfl | simp [gF_sF, gF_sA, gF_uA, gF_sD, gA_sF, gA_sA, gA_uA, gA_sD, gD_sF, gD_sA, gD_uA, gD_sD]) ?_
              refine pw_iload r_12_fact_75 rfl ?_
              refine pw_iast r_12_fact_76 sh220 (by omega) (by omega) ?_
              refine pw_aload r_12_fact_77 rfl ?_
              refine pw_getR r_12_fact_78 fs_12_25 (by decide) ?_
              refine pw_aload r_12_fact_81 rfl ?_
              refine pw_getIv (v := gF G 12 (0) 27) r_12_fact_82 fs_12_27 (by decide) (by first | rfl | simp [gF_sF, gF_sA, gF_uA, gF_sD, gA_sF, gA_sA, gA_uA, gA_sD, gD_sF, gD_sA, gD_uA, gD_sD]) ?_
              refine pw_iload r_12_fact_85 rfl ?_
              refine pw_if_ne r_12_fact_86 (fun h86 => ?_) (fun h86 => ?_)
              · skip
                refine pw_iload r_12_fact_98 rfl ?_
                refine pw_iast r_12_fact_99 sh221 (by omega) (by omega) ?_
                refine pw_aload r_12_fact_100 rfl ?_
                refine pw_getR r_12_fact_101 fs_12_26 (by decide) ?_
                refine pw_aload r_12_fact_104 rfl ?_
                refine pw_getIv (v := gF G 12 (0) 27) r_12_fact_105 fs_12_27 (by decide) (by first | rfl | simp [gF_sF, gF_sA, gF_uA, gF_sD, gA_sF, gA_sA, gA_uA, gA_sD, gD_sF, gD_sA, gD_uA, gD_sD]) ?_
                refine pw_aload r_12_fact_108 rfl ?_
                refine pw_getIv (v := gF G 12 (0) 0) r_12_fact_109 fs_12_0 (by decide) (by first | rfl | simp [gF_sF, gF_sA, gF_uA, gF_sD, gA_sF, gA_sA, gA_uA, gA_sD, gD_sF, gD_sA, gD_uA, gD_sD]) ?_
                refine pw_iast r_12_fact_112 sh222 (by omega) (by omega) ?_
                refine pw_aload r_12_fact_113 rfl ?_
                refine pw_dup r_12_fact_114 rfl ?_
                refine pw_getIv (v := gF G 12 (0) 27) r_12_fact_115 fs_12_27 (by decide) (by first | rfl | simp [gF_sF, gF_sA, gF_uA, gF_sD, gA_sF, gA_sA, gA_uA, gA_sD, gD_sF, gD_sA, gD_uA, gD_sD]) ?_
                refine pw_const r_12_fact_118 ?_
                refine pw_iadd r_12_fact_119 (by omega) ?_
                refine pw_putI r_12_fact_120 (by decide +kernel) fs_12_27 (by decide) ?_
                refine pw_aload r_12_fact_123 rfl ?_
                refine pw_getIv (v := ((gF G 12 (0) 27) + 1)) r_12_fact_124 fs_12_27 (by decide) (by first | rfl | simp [gF_sF, gF_sA, gF_uA, gF_sD, gA_sF, gA_sA, gA_uA, gA_sD, gD_sF, gD_sA, gD_uA, gD_sD]) ?_
                refine pw_iret r_12_fact_127 rfl (Nat.le_refl _) ⟨rfl, ?_⟩
                first | exact h1 (by omega) | exact h2 (by omega) (by omega) | exact h3 (by omega) (by omega) (by omega) | exact pe (h4 (by omega) (by omega) (by omega) _ (by omega)) (by first | rfl | omega)
              · skip
                refine pw_aload r_12_fact_89 rfl ?_
                refine pw_getR r_12_fact_90 fs_12_12 (by decide) ?_
                refine pw_iload r_12_fact_93 rfl ?_
                refine pw_ialdv (v := gA G 210 (0) (p)) r_12_fact_94 sh210 (by omega) (by omega) (by first | rfl | simp [gF_sF, gF_sA, gF_uA, gF_sD, gA_sF, gA_sA, gA_uA, gA_sD, gD_sF, gD_sA, gD_uA, gD_sD]) ?_
                refine pw_goto r_12_fact_95 ?_
                refine pw_iast r_12_fact_99 sh221 (by omega) (by omega) ?_
                refine pw_aload r_12_fact_100 rfl ?_
                refine pw_getR r_12_fact_101 fs_12_26 (by decide) ?_
                refine pw_aload r_12_fact_104 rfl ?_
                refine pw_getIv (v := gF G 12 (0) 27) r_12_fact_105 fs_12_27 (by decide) (by first | rfl | simp [gF_sF, gF_sA, gF_uA, gF_sD, gA_sF, gA_sA, gA_uA, gA_sD, gD_sF, gD_sA, gD_uA, gD_sD]) ?_
                refine pw_aload r_12_fact_108 rfl ?_
                refine pw_getIv (v := gF G 12 (0) 0) r_12_fact_109 fs_12_0 (by decide) (by first | rfl | simp [gF_sF, gF_sA, gF_uA, gF_sD, gA_sF, gA_sA, gA_uA, gA_sD, gD_sF, gD_sA, gD_uA, gD_sD]) ?_
                refine pw_iast r_12_fact_112 sh222 (by omega) (by omega) ?_
                refine pw_aload r_12_fact_113 rfl ?_
                refine pw_dup r_12_fact_114 rfl ?_
                refine pw_getIv (v := gF G 12 (0) 27) r_12_fact_115 fs_12_27 (by decide) (by first | rfl | simp [gF_sF, gF_sA, gF_uA, gF_sD, gA_sF, gA_sA, gA_uA, gA_sD, gD_sF, gD_sA, gD_uA, gD_sD]) ?_
                refine pw_const r_12_fact_118 ?_
                refine pw_iadd r_12_fact_119 (by omega) ?_
                refine pw_putI r_12_fact_120 (by decide +kernel) fs_12_27 (by decide) ?_
                refine pw_aload r_12_fact_123 rfl ?_
                refine pw_getIv (v := ((gF G 12 (0) 27) + 1)) r_12_fact_124 fs_12_27 (by decide) (by first | rfl | simp [gF_sF, gF_sA, gF_uA, gF_sD, gA_sF, gA_sA, gA_uA, gA_sD, gD_sF, gD_sA, gD_uA, gD_sD]) ?_
                refine pw_iret r_12_fact_127 rfl (Nat.le_refl _) ⟨rfl, ?_⟩
                first | exact h1 (by omega) | exact h2 (by omega) (by omega) | exact h3 (by omega) (by omega) (by omega) | exact pe (h4 (by omega) (by omega) (by omega) _ (by omega)) (by first | rfl | omega)
            · skip
              refine pw_const r_12_fact_54 ?_
              refine pw_iret r_12_fact_56 rfl (Nat.le_refl _) ⟨rfl, ?_⟩
              first | exact h1 (by omega) | exact h2 (by omega) (by omega) | exact h3 (by omega) (by omega) (by omega) | exact pe (h4 (by omega) (by omega) (by omega) _ (by omega)) (by first | rfl | omega)
          · skip
            refine pw_const r_12_fact_41 ?_
            refine pw_iret r_12_fact_43 rfl (Nat.le_refl _) ⟨rfl, ?_⟩
            first | exact h1 (by omega) | exact h2 (by omega) (by omega) | exact h3 (by omega) (by omega) (by omega) | exact pe (h4 (by omega) (by omega) (by omega) _ (by omega)) (by first | rfl | omega)
      · skip
        refine pw_const r_12_fact_26 ?_
        refine pw_iret r_12_fact_27 rfl (Nat.le_refl _) ⟨rfl, ?_⟩
        first | exact h1 (by omega) | exact h2 (by omega) (by omega) | exact h3 (by omega) (by omega) (by omega) | exact pe (h4 (by omega) (by omega) (by omega) _ (by omega)) (by first | rfl | omega)
set_option maxRecDepth 10000 in
theorem sp_X9_addLetter {l : Launch} {w : Wo} {d : Nat} {G : PH} {P : Option PV → PH → Prop} (hf : 0 ≤ (gF G 9 0 0) ∧ (gF G 9 0 0) ≤ 300) (hlt : 0 ≤ (gF G 9 0 1) ∧ (gF G 9 0 1) ≤ 60) (hday : 0 ≤ (gF G 1 0 2) ∧ (gF G 1 0 2) ≤ 600) (h1 : 60 ≤ (gF G 9 0 1) → P (some (vI (-2))) G) (h2 : (gF G 9 0 1) < 60 → P (some (vI ((gF G 9 0 1) + 1))) (sF (uA (sF G 9 0 9 ((gF G 1 0 2))) 87 0 ((filF (fun j0 => (gA G 87 0 (j0)) = 1000000000) (fun j0 => (gF G 1 0 2) + 7) (gA G 87 0) (gF G 9 0 0)))) 9 0 1 ((gF G 9 0 1) + 1))) : PW l w M_X9_addLetter (d + 0) 0 [some (vR 9 (0)), none] [] G P := by
  refine pw_aload r_9_addLetter_0 rfl ?_
  refine pw_getI r_9_addLetter_1 fs_9_1 (by decide) ?_
  refine pw_const r_9_addLetter_4 ?_
  refine pw_icmp_lt r_9_addLetter_6 (fun h06 => ?_) (fun h06 => ?_)
  · skip
    refine pw_aload r_9_addLetter_12 rfl ?_
    refine pw_aload r_9_addLetter_13 rfl ?_
    refine pw_getR r_9_addLetter_14 fs_9_3 (by decide) ?_
    refine pw_getI r_9_addLetter_17 fs_1_2 (by decide) ?_
    refine pw_putI r_9_addLetter_20 (by decide +kernel) fs_9_9 (by decide) ?_
    refine pw_const r_9_addLetter_23 ?_
    refine pw_istore (ls' := [some (vR 9 (0)), some (vI (0))]) r_9_addLetter_24 rfl rfl ?_
    have L25 : ∀ (nF : Nat) (i : Int), (hi : 0 ≤ i ∧ i ≤ (gF G 9 0 0)) → ((gF G 9 0 0) - i).toNat < nF → PW l w M_X9_addLetter (d + 0) 25 [some (vR 9 (0)), some (vI (i))] [] (uA (sF G 9 (0) 9 (gF G 1 (0) 2)) 87 (0) (filF (fun j0 => (gA G 87 0 (j0)) = 1000000000) (fun j0 => (gF G 1 0 2) + 7) (gA G 87 0) i)) P := by
      intro nF
      induction nF with
      | zero => intro _ _ hM; exact absurd hM (Nat.not_lt_zero _)
      | succ nF ih25 =>
        intro i hi hM25
        refine pw_iload r_9_addLetter_25 rfl ?_
        refine pw_aload r_9_addLetter_26 rfl ?_
        refine pw_getIv (v := gF G 9 (0) 0) r_9_addLetter_27 fs_9_0 (by decide) (by first | rfl | simp [gF_sF, gF_sA, gF_uA, gF_sD, gA_sF, gA_sA, gA_uA, gA_sD, gD_sF, gD_sA, gD_uA, gD_sD]) ?_
        refine pw_icmp_ge r_9_addLetter_30 (fun h30 => ?_) (fun h30 => ?_)
        · skip
          have ei : i = (gF G 9 0 0) := by omega
          subst ei
          refine pw_aload r_9_addLetter_66 rfl ?_
          refine pw_dup r_9_addLetter_67 rfl ?_
          refine pw_getIv (v := gF G 9 (0) 1) r_9_addLetter_68 fs_9_1 (by decide) (by first | rfl | simp [gF_sF, gF_sA, gF_uA, gF_sD, gA_sF, gA_sA, gA_uA, gA_sD, gD_sF, gD_sA, gD_uA, gD_sD]) ?_
          refine pw_const r_9_addLetter_71 ?_
          refine pw_iadd r_9_addLetter_72 (by omega) ?_
          refine pw_putI r_9_addLetter_73 (by decide +kernel) fs_9_1 (by decide) ?_
          refine pw_aload r_9_addLetter_76 rfl ?_
          refine pw_getIv (v := ((gF G 9 (0) 1) + 1)) r_9_addLetter_77 fs_9_1 (by decide) (by first | rfl | simp [gF_sF, gF_sA, gF_uA, gF_sD, gA_sF, gA_sA, gA_uA, gA_sD, gD_sF, gD_sA, gD_uA, gD_sD]) ?_
          refine pw_iret r_9_addLetter_80 rfl (Nat.le_refl _) ⟨rfl, ?_⟩
          first | exact h1 (by omega) | exact h2 (by omega)
        · skip
          refine pw_aload r_9_addLetter_33 rfl ?_
          refine pw_getR r_9_addLetter_34 fs_9_8 (by decide) ?_
          refine pw_iload r_9_addLetter_37 rfl ?_
          refine pw_ialdv (v := (filF (fun j0 => (gA G 87 0 (j0)) = 1000000000) (fun j0 => (gF G 1 0 2) + 7) (gA G 87 0) i) (i)) r_9_addLetter_38 sh87 (by omega) (by omega) (by first | rfl | simp [gF_sF, gF_sA, gF_uA, gF_sD, gA_sF, gA_sA, gA_uA, gA_sD, gD_sF, gD_sA, gD_uA, gD_sD]) ?_
          refine pw_top (b := (gA G 87 0 (i))) (fil_at) ?_
          refine pw_const r_9_addLetter_39 ?_
          refine pw_icmp_ne r_9_addLetter_41 (fun h41 => ?_) (fun h41 => ?_)
          · skip
            refine pw_iinc (b := 0) (ls' := [some (vR 9 (0)), some (vI ((i + 1)))]) r_9_addLetter_60 rfl rfl (by omega) rfl ?_
            refine pw_goto r_9_addLetter_63 ?_
            refine pw_eqG (G' := uA (sF G 9 (0) 9 (gF G 1 (0) 2)) 87 (0) (filF (fun j0 => (gA G 87 0 (j0)) = 1000000000) (fun j0 => (gF G 1 0 2) + 7) (gA G 87 0) (i + 1))) (by first | (rw [sA_uA, fil_s (q := (fun j0 => (gA G 87 0 (j0)) = 1000000000)) hi.1 (show (gA G 87 0 (i)) = 1000000000 by omega) (by first | rfl | omega)]) | (rw [fil_k (q := (fun j0 => (gA G 87 0 (j0)) = 1000000000)) (n := i) (show ¬ ((gA G 87 0 (i)) = 1000000000) by omega)])) ?_
            exact ih25 ((i + 1)) (by omega) (by omega)
          · skip
            refine pw_aload r_9_addLetter_44 rfl ?_
            refine pw_getR r_9_addLetter_45 fs_9_8 (by decide) ?_
            refine pw_iload r_9_addLetter_48 rfl ?_
            refine pw_aload r_9_addLetter_49 rfl ?_
            refine pw_getR r_9_addLetter_50 fs_9_3 (by decide) ?_
            refine pw_getIv (v := gF G 1 (0) 2) r_9_addLetter_53 fs_1_2 (by decide) (by first | rfl | simp [gF_sF, gF_sA, gF_uA, gF_sD, gA_sF, gA_sA, gA_uA, gA_sD, gD_sF, gD_sA, gD_uA, gD_sD]) ?_
            refine pw_const r_9_addLetter_56 ?_
            refine pw_iadd r_9_addLetter_58 (by omega) ?_
            refine pw_iast r_9_addLetter_59 sh87 (by omega) (by omega) ?_
            refine pw_iinc (b := 0) (ls' := [some (vR 9 (0)), some (vI ((i + 1)))]) r_9_addLetter_60 rfl rfl (by omega) rfl ?_
            refine pw_goto r_9_addLetter_63 ?_
            refine pw_eqG (G' := uA (sF G 9 (0) 9 (gF G 1 (0) 2)) 87 (0) (filF (fun j0 => (gA G 87 0 (j0)) = 1000000000) (fun j0 => (gF G 1 0 2) + 7) (gA G 87 0) (i + 1))) (by first | (rw [sA_uA, fil_s (q := (fun j0 => (gA G 87 0 (j0)) = 1000000000)) hi.1 (show (gA G 87 0 (i)) = 1000000000 by omega) (by first | rfl | omega)]) | (rw [fil_k (q := (fun j0 => (gA G 87 0 (j0)) = 1000000000)) (n := i) (show ¬ ((gA G 87 0 (i)) = 1000000000) by omega)])) ?_
            exact ih25 ((i + 1)) (by omega) (by omega)
    refine pw_eqG (G' := uA (sF G 9 (0) 9 (gF G 1 (0) 2)) 87 (0) (filF (fun j0 => (gA G 87 0 (j0)) = 1000000000) (fun j0 => (gF G 1 0 2) + 7) (gA G 87 0) 0)) (by rw [fil_0]; exact (uA_self _ 87 0).symm) ?_
    exact L25 _ (0) (by omega) (Nat.lt_succ_self _)
  · skip
    refine pw_const r_9_addLetter_9 ?_
    refine pw_iret r_9_addLetter_11 rfl (Nat.le_refl _) ⟨rfl, ?_⟩
    first | exact h1 (by omega) | exact h2 (by omega)
set_option maxRecDepth 10000 in
theorem sp_X12_letter {l : Launch} {w : Wo} {d : Nat} {G : PH} {P : Option PV → PH → Prop} (hlt : 0 ≤ (gF G 12 0 29) ∧ (gF G 12 0 29) ≤ 60) (h1 : (gF G 12 0 29) = 60 → P (some (vI (-2))) G) (h2 : (gF G 12 0 29) < 60 → P (some (vI ((gF G 12 0 29) + 1))) (sF (sA G 223 0 ((gF G 12 0 29)) ((gF G 12 0 0))) 12 0 29 ((gF G 12 0 29) + 1))) : PW l w M_X12_letter (d + 0) 0 [some (vR 12 (0))] [] G P := by
  refine pw_aload r_12_letter_0 rfl ?_
  refine pw_getI r_12_letter_1 fs_12_29 (by decide) ?_
  refine pw_const r_12_letter_4 ?_
  refine pw_icmp_ne r_12_letter_6 (fun h06 => ?_) (fun h06 => ?_)
  · skip
    refine pw_aload r_12_letter_12 rfl ?_
    refine pw_getR r_12_letter_13 fs_12_28 (by decide) ?_
    refine pw_aload r_12_letter_16 rfl ?_
    refine pw_getI r_12_letter_17 fs_12_29 (by decide) ?_
    refine pw_aload r_12_letter_20 rfl ?_
    refine pw_getI r_12_letter_21 fs_12_0 (by decide) ?_
    refine pw_iast r_12_letter_24 sh223 (by omega) (by omega) ?_
    refine pw_aload r_12_letter_25 rfl ?_
    refine pw_dup r_12_letter_26 rfl ?_
    refine pw_getIv (v := gF G 12 (0) 29) r_12_letter_27 fs_12_29 (by decide) (by first | rfl | simp [gF_sF, gF_sA, gF_uA, gF_sD, gA_sF, gA_sA, gA_uA, gA_sD, gD_sF, gD_sA, gD_uA, gD_sD]) ?_
    refine pw_const r_12_letter_30 ?_
    refine pw_iadd r_12_letter_31 (by omega) ?_
    refine pw_putI r_12_letter_32 (by decide +kernel) fs_12_29 (by decide) ?_
    refine pw_aload r_12_letter_35 rfl ?_
    refine pw_getIv (v := ((gF G 12 (0) 29) + 1)) r_12_letter_36 fs_12_29 (by decide) (by first | rfl | simp [gF_sF, gF_sA, gF_uA, gF_sD, gA_sF, gA_sA, gA_uA, gA_sD, gD_sF, gD_sA, gD_uA, gD_sD]) ?_
    refine pw_iret r_12_letter_39 rfl (Nat.le_refl _) ⟨rfl, ?_⟩
    first | exact h1 (by omega) | exact h2 (by omega)
  · skip
    refine pw_const r_12_letter_9 ?_
    refine pw_iret r_12_letter_11 rfl (Nat.le_refl _) ⟨rfl, ?_⟩
    first | exact h1 (by omega) | exact h2 (by omega)
set_option maxRecDepth 10000 in
theorem sp_X9_valueKnown {l : Launch} {w : Wo} {d : Nat} {G : PH} {P : Option PV → PH → Prop} {z p s k : Int} (hf : 0 ≤ (gF G 9 0 0) ∧ (gF G 9 0 0) ≤ 300) (hnum : (gF G 3 (p) 0) = p) (hP : P (some (vI (lastOf (fun i => ((gA G 83 0 (i)) = p ∧ (gA G 84 0 (i)) = s ∧ ((((s = 2 ∧ z ≠ (gF G 3 (p) 2)) ∨ (s ≠ 2 ∧ z = (gF G 3 (p) 2))) ∧ (gA G 86 0 (i)) ≤ k) ∨ (¬ ((s = 2 ∧ z ≠ (gF G 3 (p) 2)) ∨ (s ≠ 2 ∧ z = (gF G 3 (p) 2))) ∧ (gA G 87 0 (i)) ≤ k)))) (gA G 85 0) 0 (gF G 9 0 0)))) G) : PW l w M_X9_valueKnown (d + 0) 0 [some (vR 9 (0)), some (vI (z)), some (vR 3 (p)), some (vI (s)), some (vI (k)), none, none, none] [] G P := by
  have L34 : ∀ (t : Int), (ht : (t = 1 ∧ ((s = 2 ∧ z ≠ (gF G 3 (p) 2)) ∨ (s ≠ 2 ∧ z = (gF G 3 (p) 2)))) ∨ (t = 0 ∧ ¬ ((s = 2 ∧ z ≠ (gF G 3 (p) 2)) ∨ (s ≠ 2 ∧ z = (gF G 3 (p) 2))))) → PW l w M_X9_valueKnown (d + 0) 34 [some (vR 9 (0)), some (vI (z)), some (vR 3 (p)), some (vI (s)), some (vI (k)), none, none, none] [vI (t)] G P := by
    intro t ht
    refine pw_istore (ls' := [some (vR 9 (0)), some (vI (z)), some (vR 3 (p)), some (vI (s)), some (vI (k)), some (vI (t)), none, none]) r_9_valueKnown_34 rfl rfl ?_
    refine pw_aload r_9_valueKnown_36 rfl ?_
    refine pw_getI r_9_valueKnown_37 fs_9_0 (by decide) ?_
    refine pw_const r_9_valueKnown_40 ?_
    refine pw_isub r_9_valueKnown_41 (by omega) ?_
    refine pw_istore (ls' := [some (vR 9 (0)), some (vI (z)), some (vR 3 (p)), some (vI (s)), some (vI (k)), some (vI (t)), some (vI (((gF G 9 (0) 0) - 1))), none]) r_9_valueKnown_42 rfl rfl ?_
    have L44 : ∀ (nF : Nat) (i : Int), (hi : -1 ≤ i ∧ i < (gF G 9 0 0)) → (hl : lastOf (fun i => ((gA G 83 0 (i)) = p ∧ (gA G 84 0 (i)) = s ∧ ((((s = 2 ∧ z ≠ (gF G 3 (p) 2)) ∨ (s ≠ 2 ∧ z = (gF G 3 (p) 2))) ∧ (gA G 86 0 (i)) ≤ k) ∨ (¬ ((s = 2 ∧ z ≠ (gF G 3 (p) 2)) ∨ (s ≠ 2 ∧ z = (gF G 3 (p) 2))) ∧ (gA G 87 0 (i)) ≤ k)))) (gA G 85 0) 0 (gF G 9 0 0) = lastOf (fun i => ((gA G 83 0 (i)) = p ∧ (gA G 84 0 (i)) = s ∧ ((((s = 2 ∧ z ≠ (gF G 3 (p) 2)) ∨ (s ≠ 2 ∧ z = (gF G 3 (p) 2))) ∧ (gA G 86 0 (i)) ≤ k) ∨ (¬ ((s = 2 ∧ z ≠ (gF G 3 (p) 2)) ∨ (s ≠ 2 ∧ z = (gF G 3 (p) 2))) ∧ (gA G 87 0 (i)) ≤ k)))) (gA G 85 0) 0 (i + 1)) → (i + 1).toNat < nF → PW l w M_X9_valueKnown (d + 0) 44 [some (vR 9 (0)), some (vI (z)), some (vR 3 (p)), some (vI (s)), some (vI (k)), some (vI (t)), some (vI (i)), none] [] G P := by
      intro nF
      induction nF with
      | zero => intro _ _ _ hM; exact absurd hM (Nat.not_lt_zero _)
      | succ nF ih44 =>
        intro i hi hl hM44
        refine pw_iload r_9_valueKnown_44 rfl ?_
        refine pw_if_lt r_9_valueKnown_46 (fun h46 => ?_) (fun h46 => ?_)
        · skip
          refine pw_const r_9_valueKnown_119 ?_
          refine pw_iret r_9_valueKnown_120 rfl (Nat.le_refl _) ⟨rfl, ?_⟩
          rw [hl, show i + 1 = 0 by omega, last_0] at hP
          exact hP
        · skip
          refine pw_aload r_9_valueKnown_49 rfl ?_
          refine pw_getR r_9_valueKnown_50 fs_9_4 (by decide) ?_
          refine pw_iload r_9_valueKnown_53 rfl ?_
          refine pw_iald r_9_valueKnown_55 sh83 (by omega) (by omega) ?_
          refine pw_aload r_9_valueKnown_56 rfl ?_
          refine pw_getI r_9_valueKnown_57 fs_3_0 (by decide) ?_
          refine pw_top (b := p) (hnum) ?_
          refine pw_icmp_ne r_9_valueKnown_60 (fun h60 => ?_) (fun h60 => ?_)
          · skip
            refine pw_iinc (b := 0) (ls' := [some (vR 9 (0)), some (vI (z)), some (vR 3 (p)), some (vI (s)), some (vI (k)), some (vI (t)), some (vI ((i + (-1)))), none]) r_9_valueKnown_113 rfl rfl (by omega) rfl ?_
            refine pw_goto r_9_valueKnown_116 ?_
            exact ih44 ((i + (-1))) (by omega) (hl.trans ((last_f (by omega) (show ¬ ((gA G 83 0 (i)) = p ∧ (gA G 84 0 (i)) = s ∧ ((((s = 2 ∧ z ≠ (gF G 3 (p) 2)) ∨ (s ≠ 2 ∧ z = (gF G 3 (p) 2))) ∧ (gA G 86 0 (i)) ≤ k) ∨ (¬ ((s = 2 ∧ z ≠ (gF G 3 (p) 2)) ∨ (s ≠ 2 ∧ z = (gF G 3 (p) 2))) ∧ (gA G 87 0 (i)) ≤ k))) by omega)).trans (by rw [show i + -1 + 1 = i by omega]))) (by omega)
          · skip
            refine pw_aload r_9_valueKnown_63 rfl ?_
            refine pw_getR r_9_valueKnown_64 fs_9_5 (by decide) ?_
            refine pw_iload r_9_valueKnown_67 rfl ?_
            refine pw_iald r_9_valueKnown_69 sh84 (by omega) (by omega) ?_
            refine pw_iload r_9_valueKnown_70 rfl ?_
            refine pw_icmp_ne r_9_valueKnown_71 (fun h71 => ?_) (fun h71 => ?_)
            · skip
              refine pw_iinc (b := 0) (ls' := [some (vR 9 (0)), some (vI (z)), some (vR 3 (p)), some (vI (s)), some (vI (k)), some (vI (t)), some (vI ((i + (-1)))), none]) r_9_valueKnown_113 rfl rfl (by omega) rfl ?_
              refine pw_goto r_9_valueKnown_116 ?_
              exact ih44 ((i + (-1))) (by omega) (hl.trans ((last_f (by omega) (show ¬ ((gA G 83 0 (i)) = p ∧ (gA G 84 0 (i)) = s ∧ ((((s = 2 ∧ z ≠ (gF G 3 (p) 2)) ∨ (s ≠ 2 ∧ z = (gF G 3 (p) 2))) ∧ (gA G 86 0 (i)) ≤ k) ∨ (¬ ((s = 2 ∧ z ≠ (gF G 3 (p) 2)) ∨ (s ≠ 2 ∧ z = (gF G 3 (p) 2))) ∧ (gA G 87 0 (i)) ≤ k))) by omega)).trans (by rw [show i + -1 + 1 = i by omega]))) (by omega)
            · skip
              refine pw_iload r_9_valueKnown_74 rfl ?_
              refine pw_if_eq r_9_valueKnown_76 (fun h76 => ?_) (fun h76 => ?_)
              · skip
                refine pw_aload r_9_valueKnown_89 rfl ?_
                refine pw_getR r_9_valueKnown_90 fs_9_8 (by decide) ?_
                refine pw_iload r_9_valueKnown_93 rfl ?_
                refine pw_iald r_9_valueKnown_95 sh87 (by omega) (by omega) ?_
                refine pw_istore (ls' := [some (vR 9 (0)), some (vI (z)), some (vR 3 (p)), some (vI (s)), some (vI (k)), some (vI (t)), some (vI (i)), some (vI (gA G 87 (0) (i)))]) r_9_valueKnown_96 rfl rfl ?_
                refine pw_iload r_9_valueKnown_98 rfl ?_
                refine pw_iload r_9_valueKnown_100 rfl ?_
                refine pw_icmp_gt r_9_valueKnown_102 (fun h102 => ?_) (fun h102 => ?_)
                · skip
                  refine pw_iinc (b := 0) (ls' := [some (vR 9 (0)), some (vI (z)), some (vR 3 (p)), some (vI (s)), some (vI (k)), some (vI (t)), some (vI ((i + (-1)))), some (vI (gA G 87 (0) (i)))]) r_9_valueKnown_113 rfl rfl (by omega) rfl ?_
                  refine pw_goto r_9_valueKnown_116 ?_
                  refine pw_weakL (ls' := [some (vR 9 (0)), some (vI (z)), some (vR 3 (p)), some (vI (s)), some (vI (k)), some (vI (t)), some (vI ((i + (-1)))), none]) (⟨rfl, ⟨rfl, ⟨rfl, ⟨rfl, ⟨rfl, ⟨rfl, ⟨rfl, trivial⟩⟩⟩⟩⟩⟩⟩) ?_
                  exact ih44 ((i + (-1))) (by omega) (hl.trans ((last_f (by omega) (show ¬ ((gA G 83 0 (i)) = p ∧ (gA G 84 0 (i)) = s ∧ ((((s = 2 ∧ z ≠ (gF G 3 (p) 2)) ∨ (s ≠ 2 ∧ z = (gF G 3 (p) 2))) ∧ (gA G 86 0 (i)) ≤ k) ∨ (¬ ((s = 2 ∧ z ≠ (gF G 3 (p) 2)) ∨ (s ≠ 2 ∧ z = (gF G 3 (p) 2))) ∧ (gA G 87 0 (i)) ≤ k))) by omega)).trans (by rw [show i + -1 + 1 = i by omega]))) (by omega)
                · skip
                  refine pw_aload r_9_valueKnown_105 rfl ?_
                  refine pw_getR r_9_valueKnown_106 fs_9_6 (by decide) ?_
                  refine pw_iload r_9_valueKnown_109 rfl ?_
                  refine pw_iald r_9_valueKnown_111 sh85 (by omega) (by omega) ?_
                  refine pw_iret r_9_valueKnown_112 rfl (Nat.le_refl _) ⟨rfl, ?_⟩
                  rw [hl, last_t (by omega) (show ((gA G 83 0 (i)) = p ∧ (gA G 84 0 (i)) = s ∧ ((((s = 2 ∧ z ≠ (gF G 3 (p) 2)) ∨ (s ≠ 2 ∧ z = (gF G 3 (p) 2))) ∧ (gA G 86 0 (i)) ≤ k) ∨ (¬ ((s = 2 ∧ z ≠ (gF G 3 (p) 2)) ∨ (s ≠ 2 ∧ z = (gF G 3 (p) 2))) ∧ (gA G 87 0 (i)) ≤ k))) by omega)] at hP
                  exact hP
              · skip
                refine pw_aload r_9_valueKnown_79 rfl ?_
                refine pw_getR r_9_valueKnown_80 fs_9_7 (by decide) ?_
                refine pw_iload r_9_valueKnown_83 rfl ?_
                refine pw_iald r_9_valueKnown_85 sh86 (by omega) (by omega) ?_
                refine pw_goto r_9_valueKnown_86 ?_
                refine pw_istore (ls' := [some (vR 9 (0)), some (vI (z)), some (vR 3 (p)), some (vI (s)), some (vI (k)), some (vI (t)), some (vI (i)), some (vI (gA G 86 (0) (i)))]) r_9_valueKnown_96 rfl rfl ?_
                refine pw_iload r_9_valueKnown_98 rfl ?_
                refine pw_iload r_9_valueKnown_100 rfl ?_
                refine pw_icmp_gt r_9_valueKnown_102 (fun h102 => ?_) (fun h102 => ?_)
                · skip
                  refine pw_iinc (b := 0) (ls' := [some (vR 9 (0)), some (vI (z)), some (vR 3 (p)), some (vI (s)), some (vI (k)), some (vI (t)), some (vI ((i + (-1)))), some (vI (gA G 86 (0) (i)))]) r_9_valueKnown_113 rfl rfl (by omega) rfl ?_
                  refine pw_goto r_9_valueKnown_116 ?_
                  refine pw_weakL (ls' := [some (vR 9 (0)), some (vI (z)), some (vR 3 (p)), some (vI (s)), some (vI (k)), some (vI (t)), some (vI ((i + (-1)))), none]) (⟨rfl, ⟨rfl, ⟨rfl, ⟨rfl, ⟨rfl, ⟨rfl, ⟨rfl, trivial⟩⟩⟩⟩⟩⟩⟩) ?_
                  exact ih44 ((i + (-1))) (by omega) (hl.trans ((last_f (by omega) (show ¬ ((gA G 83 0 (i)) = p ∧ (gA G 84 0 (i)) = s ∧ ((((s = 2 ∧ z ≠ (gF G 3 (p) 2)) ∨ (s ≠ 2 ∧ z = (gF G 3 (p) 2))) ∧ (gA G 86 0 (i)) ≤ k) ∨ (¬ ((s = 2 ∧ z ≠ (gF G 3 (p) 2)) ∨ (s ≠ 2 ∧ z = (gF G 3 (p) 2))) ∧ (gA G 87 0 (i)) ≤ k))) by omega)).trans (by rw [show i + -1 + 1 = i by omega]))) (by omega)
                · skip
                  refine pw_aload r_9_valueKnown_105 rfl ?_
                  refine pw_getR r_9_valueKnown_106 fs_9_6 (by decide) ?_
                  refine pw_iload r_9_valueKnown_109 rfl ?_
                  refine pw_iald r_9_valueKnown_111 sh85 (by omega) (by omega) ?_
                  refine pw_iret r_9_valueKnown_112 rfl (Nat.le_refl _) ⟨rfl, ?_⟩
                  rw [hl, last_t (by omega) (show ((gA G 83 0 (i)) = p ∧ (gA G 84 0 (i)) = s ∧ ((((s = 2 ∧ z ≠ (gF G 3 (p) 2)) ∨ (s ≠ 2 ∧ z = (gF G 3 (p) 2))) ∧ (gA G 86 0 (i)) ≤ k) ∨ (¬ ((s = 2 ∧ z ≠ (gF G 3 (p) 2)) ∨ (s ≠ 2 ∧ z = (gF G 3 (p) 2))) ∧ (gA G 87 0 (i)) ≤ k))) by omega)] at hP
                  exact hP
    exact L44 _ (((gF G 9 (0) 0) - 1)) (by omega) (by rw [show (gF G 9 0 0) - 1 + 1 = (gF G 9 0 0) by omega]) (Nat.lt_succ_self _)
  refine pw_iload r_9_valueKnown_0 rfl ?_
  refine pw_const r_9_valueKnown_1 ?_
  refine pw_icmp_ne r_9_valueKnown_2 (fun h02 => ?_) (fun h02 => ?_)
  · skip
    refine pw_iload r_9_valueKnown_21 rfl ?_
    refine pw_aload r_9_valueKnown_22 rfl ?_
    refine pw_getI r_9_valueKnown_23 fs_3_2 (by decide) ?_
    refine pw_icmp_ne r_9_valueKnown_26 (fun h26 => ?_) (fun h26 => ?_)
    · skip
      refine pw_const r_9_valueKnown_33 ?_
      exact L34 (0) (by first | assumption | omega) 
    · skip
      refine pw_const r_9_valueKnown_29 ?_
      refine pw_goto r_9_valueKnown_30 ?_
      exact L34 (1) (by first | assumption | omega) 
  · skip
    refine pw_iload r_9_valueKnown_5 rfl ?_
    refine pw_aload r_9_valueKnown_6 rfl ?_
    refine pw_getI r_9_valueKnown_7 fs_3_2 (by decide) ?_
    refine pw_icmp_eq r_9_valueKnown_10 (fun h10 => ?_) (fun h10 => ?_)
    · skip
      refine pw_const r_9_valueKnown_17 ?_
      refine pw_goto r_9_valueKnown_18 ?_
      exact L34 (0) (by first | assumption | omega) 
    · skip
      refine pw_const r_9_valueKnown_13 ?_
      refine pw_goto r_9_valueKnown_14 ?_
      exact L34 (1) (by first | assumption | omega) 
set_option maxRecDepth 10000 in
theorem sp_X9_tellKnown {l : Launch} {w : Wo} {d : Nat} {G : PH} {P : Option PV → PH → Prop} {z p s k : Int} (hp : ∀ i, 0 ≤ i → i < (gF G 1 0 1) → gD G 30 0 i = some (3, i)) (hsz : 0 ≤ (gF G 1 0 1) ∧ (gF G 1 0 1) ≤ 150) (hf : 0 ≤ (gF G 9 0 0) ∧ (gF G 9 0 0) ≤ 300) (hnum : (0 ≤ p ∧ p < (gF G 1 0 1)) → (gF G 3 (p) 0) = p) (h1 : ¬ ((0 ≤ z ∧ z ≤ 1) ∧ (0 ≤ p ∧ p < (gF G 1 0 1)) ∧ (0 ≤ s ∧ s ≤ 2) ∧ 0 ≤ k ∧ k ≤ 600) → P (some (vI (-1))) G) (h2 : ((0 ≤ z ∧ z ≤ 1) ∧ (0 ≤ p ∧ p < (gF G 1 0 1)) ∧ (0 ≤ s ∧ s ≤ 2) ∧ 0 ≤ k ∧ k ≤ 600) → P (some (vI (lastOf (fun i => ((gA G 83 0 (i)) = p ∧ (gA G 84 0 (i)) = s ∧ ((((s = 2 ∧ z ≠ (gF G 3 (p) 2)) ∨ (s ≠ 2 ∧ z = (gF G 3 (p) 2))) ∧ (gA G 86 0 (i)) ≤ k) ∨ (¬ ((s = 2 ∧ z ≠ (gF G 3 (p) 2)) ∨ (s ≠ 2 ∧ z = (gF G 3 (p) 2))) ∧ (gA G 87 0 (i)) ≤ k)))) (gA G 85 0) 0 (gF G 9 0 0)))) G) : PW l w M_X9_tellKnown (d + 2) 0 [some (vR 9 (0)), some (vI (z)), some (vI (p)), some (vI (s)), some (vI (k)), none] [] G P := by
  refine pw_aload r_9_tellKnown_0 rfl ?_
  refine pw_getR r_9_tellKnown_1 fs_9_3 (by decide) ?_
  refine pw_iload r_9_tellKnown_4 rfl ?_
  refine pw_callV (av := [vI (p)]) (st := []) (ls0 := [some (vR 1 (0)), some (vI (p))]) r_9_tellKnown_5 rfl rfl rfl (Nat.le_refl _) ?_
  refine sp_X1_get (by first | assumption | exact hp | omega) (by first | assumption | exact hsz | omega) ?_ ?_
  · skip
    intros
    refine pw_astore (ls' := [some (vR 9 (0)), some (vI (z)), some (vI (p)), some (vI (s)), some (vI (k)), some (vN)]) r_9_tellKnown_8 rfl rfl ?_
    refine pw_iload r_9_tellKnown_10 rfl ?_
    refine pw_callS (av := [vI (z)]) (st := []) (ls0 := [some (vI (z))]) r_9_tellKnown_11 rfl rfl rfl (Nat.le_refl _) ?_
    refine sp_X11_isSide  ?_
    refine pw_if_eqB r_9_tellKnown_14 (fun h14 => ?_) (fun h14 => ?_)
    · skip
      refine pw_const r_9_tellKnown_39 ?_
      refine pw_iret r_9_tellKnown_40 rfl (Nat.le_refl _) ⟨rfl, ?_⟩
      first | exact h1 (by omega) | exact h2 (by omega)
    · skip
      refine pw_aload r_9_tellKnown_17 rfl ?_
      refine pw_ifnull r_9_tellKnown_19 (fun _ => ?_) (fun _ q => by cases q)
      refine pw_const r_9_tellKnown_39 ?_
      refine pw_iret r_9_tellKnown_40 rfl (Nat.le_refl _) ⟨rfl, ?_⟩
      first | exact h1 (by omega) | exact h2 (by omega)
  · skip
    intros
    refine pw_astore (ls' := [some (vR 9 (0)), some (vI (z)), some (vI (p)), some (vI (s)), some (vI (k)), some (vR 3 (p))]) r_9_tellKnown_8 rfl rfl ?_
    refine pw_iload r_9_tellKnown_10 rfl ?_
    refine pw_callS (av := [vI (z)]) (st := []) (ls0 := [some (vI (z))]) r_9_tellKnown_11 rfl rfl rfl (Nat.le_refl _) ?_
    refine sp_X11_isSide  ?_
    refine pw_if_eqB r_9_tellKnown_14 (fun h14 => ?_) (fun h14 => ?_)
    · skip
      refine pw_const r_9_tellKnown_39 ?_
      refine pw_iret r_9_tellKnown_40 rfl (Nat.le_refl _) ⟨rfl, ?_⟩
      first | exact h1 (by omega) | exact h2 (by omega)
    · skip
      refine pw_aload r_9_tellKnown_17 rfl ?_
      refine pw_ifnull r_9_tellKnown_19 (fun q => by cases q) (fun _ _ => ?_)
      refine pw_iload r_9_tellKnown_22 rfl ?_
      refine pw_const r_9_tellKnown_23 ?_
      refine pw_const r_9_tellKnown_24 ?_
      refine pw_callS (av := [vI (s), vI (0), vI (2)]) (st := []) (ls0 := [some (vI (s)), some (vI (0)), some (vI (2))]) r_9_tellKnown_25 rfl rfl rfl (Nat.le_refl _) ?_
      refine sp_X11_within  ?_
      refine pw_if_eqB r_9_tellKnown_28 (fun h28 => ?_) (fun h28 => ?_)
      · skip
        refine pw_const r_9_tellKnown_39 ?_
        refine pw_iret r_9_tellKnown_40 rfl (Nat.le_refl _) ⟨rfl, ?_⟩
        first | exact h1 (by omega) | exact h2 (by omega)
      · skip
        refine pw_iload r_9_tellKnown_31 rfl ?_
        refine pw_callS (av := [vI (k)]) (st := []) (ls0 := [some (vI (k))]) r_9_tellKnown_33 rfl rfl rfl (Nat.le_refl _) ?_
        refine sp_X11_isDay  ?_
        refine pw_if_neB r_9_tellKnown_36 (fun h36 => ?_) (fun h36 => ?_)
        · skip
          refine pw_aload r_9_tellKnown_41 rfl ?_
          refine pw_iload r_9_tellKnown_42 rfl ?_
          refine pw_aload r_9_tellKnown_43 rfl ?_
          refine pw_iload r_9_tellKnown_45 rfl ?_
          refine pw_iload r_9_tellKnown_46 rfl ?_
          refine pw_callV (av := [vI (z), vR 3 (p), vI (s), vI (k)]) (st := []) (ls0 := [some (vR 9 (0)), some (vI (z)), some (vR 3 (p)), some (vI (s)), some (vI (k)), none, none, none]) r_9_tellKnown_48 rfl rfl rfl (Nat.le_refl _) ?_
          refine sp_X9_valueKnown (hf) (hnum (by omega)) ?_
          refine pw_iret r_9_tellKnown_51 rfl (Nat.le_refl _) ⟨rfl, ?_⟩
          first | exact h1 (by omega) | exact h2 (by omega)
        · skip
          refine pw_const r_9_tellKnown_39 ?_
          refine pw_iret r_9_tellKnown_40 rfl (Nat.le_refl _) ⟨rfl, ?_⟩
          first | exact h1 (by omega) | exact h2 (by omega)
set_option maxRecDepth 10000 in
theorem sp_X12_knownFrom {l : Launch} {w : Wo} {d : Nat} {G : PH} {P : Option PV → PH → Prop} {j z : Int} (hlt : 0 ≤ (gF G 12 0 29) ∧ (gF G 12 0 29) ≤ 60) (hj : 0 ≤ j ∧ j < 300) (hof : 0 ≤ (gA G 219 0 (j)) ∧ (gA G 219 0 (j)) < 150) (hsent : ∀ l, 0 ≤ l → l < (gF G 12 0 29) → 0 ≤ (gA G 223 0 (l)) ∧ (gA G 223 0 (l)) ≤ 600) (h1 : (((gA G 205 0 ((gA G 219 0 (j)))) = z ↔ (gA G 220 0 (j)) ≠ 2)) → P (some (vI (gA G 222 0 (j)))) G) (h2 : (¬ ((gA G 205 0 ((gA G 219 0 (j)))) = z ↔ (gA G 220 0 (j)) ≠ 2)) → P (some (vI (cmF (gF G 12 0 29) (gA G 223 0) (gA G 222 0 (j)) 100000))) G) : PW l w M_X12_knownFrom (d + 0) 0 [some (vR 12 (0)), some (vI (j)), some (vI (z)), none, none, none] [] G P := by
  refine pw_aload r_12_knownFrom_0 rfl ?_
  refine pw_getR r_12_knownFrom_1 fs_12_7 (by decide) ?_
  refine pw_aload r_12_knownFrom_4 rfl ?_
  refine pw_getR r_12_knownFrom_5 fs_12_23 (by decide) ?_
  refine pw_iload r_12_knownFrom_8 rfl ?_
  refine pw_iald r_12_knownFrom_9 sh219 (by omega) (by omega) ?_
  refine pw_iald r_12_knownFrom_10 sh205 (by omega) (by omega) ?_
  refine pw_iload r_12_knownFrom_11 rfl ?_
  refine pw_icmp_ne r_12_knownFrom_12 (fun h12 => ?_) (fun h12 => ?_)
  · skip
    refine pw_const r_12_knownFrom_19 ?_
    refine pw_aload r_12_knownFrom_20 rfl ?_
    refine pw_getR r_12_knownFrom_21 fs_12_24 (by decide) ?_
    refine pw_iload r_12_knownFrom_24 rfl ?_
    refine pw_iald r_12_knownFrom_25 sh220 (by omega) (by omega) ?_
    refine pw_const r_12_knownFrom_26 ?_
    refine pw_icmp_eq r_12_knownFrom_27 (fun h27 => ?_) (fun h27 => ?_)
    · skip
      refine pw_const r_12_knownFrom_34 ?_
      refine pw_icmp_ne r_12_knownFrom_35 (fun h35 => ?_) (fun h35 => ?_)
      · skip
        refine pw_const r_12_knownFrom_42 ?_
        refine pw_istore (ls' := [some (vR 12 (0)), some (vI (j)), some (vI (z)), some (vI (0)), none, none]) r_12_knownFrom_43 rfl rfl ?_
        refine pw_iload r_12_knownFrom_44 rfl ?_
        refine pw_if_eq r_12_knownFrom_45 (fun h45 => ?_) (fun h45 => ?_)
        · skip
          refine pw_const r_12_knownFrom_55 ?_
          refine pw_istore (ls' := [some (vR 12 (0)), some (vI (j)), some (vI (z)), some (vI (0)), some (vI (100000)), none]) r_12_knownFrom_58 rfl rfl ?_
          refine pw_aload r_12_knownFrom_60 rfl ?_
          refine pw_getI r_12_knownFrom_61 fs_12_29 (by decide) ?_
          refine pw_const r_12_knownFrom_64 ?_
          refine pw_isub r_12_knownFrom_65 (by omega) ?_
          refine pw_istore (ls' := [some (vR 12 (0)), some (vI (j)), some (vI (z)), some (vI (0)), some (vI (100000)), some (vI (((gF G 12 (0) 29) - 1)))]) r_12_knownFrom_66 rfl rfl ?_
          have L68 : ∀ (nF : Nat) (i v : Int), (hi : -1 ≤ i ∧ i < (gF G 12 0 29)) → (hv : (∃ l, i < l ∧ l < (gF G 12 0 29) ∧ (gA G 222 0 (j)) ≤ (gA G 223 0 (l)) ∧ (∀ k, i < k → k < l → (gA G 223 0 (k)) < (gA G 222 0 (j))) ∧ v = (gA G 223 0 (l)) + 7) ∨ ((∀ k, i < k → k < (gF G 12 0 29) → (gA G 223 0 (k)) < (gA G 222 0 (j))) ∧ v = 100000)) → (i + 1).toNat < nF → PW l w M_X12_knownFrom (d + 0) 68 [some (vR 12 (0)), some (vI (j)), some (vI (z)), some (vI (0)), some (vI (v)), some (vI (i))] [] G P := by
            intro nF
            induction nF with
            | zero => intro _ _ _ _ hM; exact absurd hM (Nat.not_lt_zero _)
            | succ nF ih68 =>
              intro i v hi hv hM68
              refine pw_iload r_12_knownFrom_68 rfl ?_
              refine pw_if_lt r_12_knownFrom_70 (fun h70 => ?_) (fun h70 => ?_)
              · skip
                refine pw_iload r_12_knownFrom_112 rfl ?_
                refine pw_iret r_12_knownFrom_114 rfl (Nat.le_refl _) ⟨rfl, ?_⟩
                have hN : ¬ ((gA G 205 0 ((gA G 219 0 (j)))) = z ↔ (gA G 220 0 (j)) ≠ 2) := by clear hv; omega
                refine pe (h2 hN) (cmF_is ?_).symm
                exact hv.imp (fun ⟨l, a, b, c, e, f⟩ => ⟨l, by omega, b, c, fun k x y => e k (by omega) y, f⟩) (fun ⟨e, f⟩ => ⟨fun k x y => e k (by omega) y, f⟩)
              · skip
                refine pw_aload r_12_knownFrom_73 rfl ?_
                refine pw_getR r_12_knownFrom_74 fs_12_28 (by decide) ?_
                refine pw_iload r_12_knownFrom_77 rfl ?_
                refine pw_iald r_12_knownFrom_79 sh223 (by omega) (by omega) ?_
                refine pw_aload r_12_knownFrom_80 rfl ?_
                refine pw_getR r_12_knownFrom_81 fs_12_26 (by decide) ?_
                refine pw_iload r_12_knownFrom_84 rfl ?_
                refine pw_iald r_12_knownFrom_85 sh222 (by omega) (by omega) ?_
                refine pw_icmp_lt r_12_knownFrom_86 (fun h86 => ?_) (fun h86 => ?_)
                · skip
                  refine pw_iload r_12_knownFrom_102 rfl ?_
                  refine pw_istore (ls' := [some (vR 12 (0)), some (vI (j)), some (vI (z)), some (vI (0)), some (vI (v)), some (vI (i))]) r_12_knownFrom_104 rfl rfl ?_
                  refine pw_iinc (b := 0) (ls' := [some (vR 12 (0)), some (vI (j)), some (vI (z)), some (vI (0)), some (vI (v)), some (vI ((i + (-1))))]) r_12_knownFrom_106 rfl rfl (by omega) rfl ?_
                  refine pw_goto r_12_knownFrom_109 ?_
                  refine ih68 ((i + (-1))) (v) (by omega) ?_ (by omega)
                  · skip
                    first
                      | exact Or.inl ⟨i, by omega, by omega, by omega, fun k a b => by omega, rfl⟩
                      | exact hv.imp (fun ⟨l, a, b, c, e, f⟩ => ⟨l, by omega, b, c, fun k x y => (Classical.em (k = i)).elim (fun w => by rw [w]; omega) (fun w => e k (by omega) y), f⟩) (fun ⟨e, f⟩ => ⟨fun k x y => (Classical.em (k = i)).elim (fun w => by rw [w]; omega) (fun w => e k (by omega) y), f⟩)
                · skip
                  have hs1 := hsent i (by omega) (by omega)
                  refine pw_aload r_12_knownFrom_89 rfl ?_
                  refine pw_getR r_12_knownFrom_90 fs_12_28 (by decide) ?_
                  refine pw_iload r_12_knownFrom_93 rfl ?_
                  refine pw_iald r_12_knownFrom_95 sh223 (by omega) (by omega) ?_
                  refine pw_const r_12_knownFrom_96 ?_
                  refine pw_iadd r_12_knownFrom_98 (by omega) ?_
                  refine pw_goto r_12_knownFrom_99 ?_
                  refine pw_istore (ls' := [some (vR 12 (0)), some (vI (j)), some (vI (z)), some (vI (0)), some (vI (((gA G 223 (0) (i)) + 7))), some (vI (i))]) r_12_knownFrom_104 rfl rfl ?_
                  refine pw_iinc (b := 0) (ls' := [some (vR 12 (0)), some (vI (j)), some (vI (z)), some (vI (0)), some (vI (((gA G 223 (0) (i)) + 7))), some (vI ((i + (-1))))]) r_12_knownFrom_106 rfl rfl (by omega) rfl ?_
                  refine pw_goto r_12_knownFrom_109 ?_
                  refine ih68 ((i + (-1))) (((gA G 223 (0) (i)) + 7)) (by omega) ?_ (by omega)
                  · skip
                    first
                      | exact Or.inl ⟨i, by omega, by omega, by omega, fun k a b => by omega, rfl⟩
                      | exact hv.imp (fun ⟨l, a, b, c, e, f⟩ => ⟨l, by omega, b, c, fun k x y => (Classical.em (k = i)).elim (fun w => by rw [w]; omega) (fun w => e k (by omega) y), f⟩) (fun ⟨e, f⟩ => ⟨fun k x y => (Classical.em (k = i)).elim (fun w => by rw [w]; omega) (fun w => e k (by omega) y), f⟩)
          exact L68 _ (((gF G 12 (0) 29) - 1)) (100000) (by omega) (Or.inr ⟨fun k a b => by omega, rfl⟩) (Nat.lt_succ_self _)
        · skip
          refine pw_aload r_12_knownFrom_48 rfl ?_
          refine pw_getR r_12_knownFrom_49 fs_12_26 (by decide) ?_
          refine pw_iload r_12_knownFrom_52 rfl ?_
          refine pw_iald r_12_knownFrom_53 sh222 (by omega) (by omega) ?_
          refine pw_iret r_12_knownFrom_54 rfl (Nat.le_refl _) ⟨rfl, ?_⟩
          exact h1 (by omega)
      · skip
        refine pw_const r_12_knownFrom_38 ?_
        refine pw_goto r_12_knownFrom_39 ?_
        refine pw_istore (ls' := [some (vR 12 (0)), some (vI (j)), some (vI (z)), some (vI (1)), none, none]) r_12_knownFrom_43 rfl rfl ?_
        refine pw_iload r_12_knownFrom_44 rfl ?_
        refine pw_if_eq r_12_knownFrom_45 (fun h45 => ?_) (fun h45 => ?_)
        · skip
          refine pw_const r_12_knownFrom_55 ?_
          refine pw_istore (ls' := [some (vR 12 (0)), some (vI (j)), some (vI (z)), some (vI (1)), some (vI (100000)), none]) r_12_knownFrom_58 rfl rfl ?_
          refine pw_aload r_12_knownFrom_60 rfl ?_
          refine pw_getI r_12_knownFrom_61 fs_12_29 (by decide) ?_
          refine pw_const r_12_knownFrom_64 ?_
          refine pw_isub r_12_knownFrom_65 (by omega) ?_
          refine pw_istore (ls' := [some (vR 12 (0)), some (vI (j)), some (vI (z)), some (vI (1)), some (vI (100000)), some (vI (((gF G 12 (0) 29) - 1)))]) r_12_knownFrom_66 rfl rfl ?_
          have L68 : ∀ (nF : Nat) (i v : Int), (hi : -1 ≤ i ∧ i < (gF G 12 0 29)) → (hv : (∃ l, i < l ∧ l < (gF G 12 0 29) ∧ (gA G 222 0 (j)) ≤ (gA G 223 0 (l)) ∧ (∀ k, i < k → k < l → (gA G 223 0 (k)) < (gA G 222 0 (j))) ∧ v = (gA G 223 0 (l)) + 7) ∨ ((∀ k, i < k → k < (gF G 12 0 29) → (gA G 223 0 (k)) < (gA G 222 0 (j))) ∧ v = 100000)) → (i + 1).toNat < nF → PW l w M_X12_knownFrom (d + 0) 68 [some (vR 12 (0)), some (vI (j)), some (vI (z)), some (vI (1)), some (vI (v)), some (vI (i))] [] G P := by
            intro nF
            induction nF with
            | zero => intro _ _ _ _ hM; exact absurd hM (Nat.not_lt_zero _)
            | succ nF ih68 =>
              intro i v hi hv hM68
              refine pw_iload r_12_knownFrom_68 rfl ?_
              refine pw_if_lt r_12_knownFrom_70 (fun h70 => ?_) (fun h70 => ?_)
              · skip
                refine pw_iload r_12_knownFrom_112 rfl ?_
                refine pw_iret r_12_knownFrom_114 rfl (Nat.le_refl _) ⟨rfl, ?_⟩
                have hN : ¬ ((gA G 205 0 ((gA G 219 0 (j)))) = z ↔ (gA G 220 0 (j)) ≠ 2) := by clear hv; omega
                refine pe (h2 hN) (cmF_is ?_).symm
                exact hv.imp (fun ⟨l, a, b, c, e, f⟩ => ⟨l, by omega, b, c, fun k x y => e k (by omega) y, f⟩) (fun ⟨e, f⟩ => ⟨fun k x y => e k (by omega) y, f⟩)
              · skip
                refine pw_aload r_12_knownFrom_73 rfl ?_
                refine pw_getR r_12_knownFrom_74 fs_12_28 (by decide) ?_
                refine pw_iload r_12_knownFrom_77 rfl ?_
                refine pw_iald r_12_knownFrom_79 sh223 (by omega) (by omega) ?_
                refine pw_aload r_12_knownFrom_80 rfl ?_
                refine pw_getR r_12_knownFrom_81 fs_12_26 (by decide) ?_
                refine pw_iload r_12_knownFrom_84 rfl ?_
                refine pw_iald r_12_knownFrom_85 sh222 (by omega) (by omega) ?_
                refine pw_icmp_lt r_12_knownFrom_86 (fun h86 => ?_) (fun h86 => ?_)
                · skip
                  refine pw_iload r_12_knownFrom_102 rfl ?_
                  refine pw_istore (ls' := [some (vR 12 (0)), some (vI (j)), some (vI (z)), some (vI (1)), some (vI (v)), some (vI (i))]) r_12_knownFrom_104 rfl rfl ?_
                  refine pw_iinc (b := 0) (ls' := [some (vR 12 (0)), some (vI (j)), some (vI (z)), some (vI (1)), some (vI (v)), some (vI ((i + (-1))))]) r_12_knownFrom_106 rfl rfl (by omega) rfl ?_
                  refine pw_goto r_12_knownFrom_109 ?_
                  refine ih68 ((i + (-1))) (v) (by omega) ?_ (by omega)
                  · skip
                    first
                      | exact Or.inl ⟨i, by omega, by omega, by omega, fun k a b => by omega, rfl⟩
                      | exact hv.imp (fun ⟨l, a, b, c, e, f⟩ => ⟨l, by omega, b, c, fun k x y => (Classical.em (k = i)).elim (fun w => by rw [w]; omega) (fun w => e k (by omega) y), f⟩) (fun ⟨e, f⟩ => ⟨fun k x y => (Classical.em (k = i)).elim (fun w => by rw [w]; omega) (fun w => e k (by omega) y), f⟩)
                · skip
                  have hs1 := hsent i (by omega) (by omega)
                  refine pw_aload r_12_knownFrom_89 rfl ?_
                  refine pw_getR r_12_knownFrom_90 fs_12_28 (by decide) ?_
                  refine pw_iload r_12_knownFrom_93 rfl ?_
                  refine pw_iald r_12_knownFrom_95 sh223 (by omega) (by omega) ?_
                  refine pw_const r_12_knownFrom_96 ?_
                  refine pw_iadd r_12_knownFrom_98 (by omega) ?_
                  refine pw_goto r_12_knownFrom_99 ?_
                  refine pw_istore (ls' := [some (vR 12 (0)), some (vI (j)), some (vI (z)), some (vI (1)), some (vI (((gA G 223 (0) (i)) + 7))), some (vI (i))]) r_12_knownFrom_104 rfl rfl ?_
                  refine pw_iinc (b := 0) (ls' := [some (vR 12 (0)), some (vI (j)), some (vI (z)), some (vI (1)), some (vI (((gA G 223 (0) (i)) + 7))), some (vI ((i + (-1))))]) r_12_knownFrom_106 rfl rfl (by omega) rfl ?_
                  refine pw_goto r_12_knownFrom_109 ?_
                  refine ih68 ((i + (-1))) (((gA G 223 (0) (i)) + 7)) (by omega) ?_ (by omega)
                  · skip
                    first
                      | exact Or.inl ⟨i, by omega, by omega, by omega, fun k a b => by omega, rfl⟩
                      | exact hv.imp (fun ⟨l, a, b, c, e, f⟩ => ⟨l, by omega, b, c, fun k x y => (Classical.em (k = i)).elim (fun w => by rw [w]; omega) (fun w => e k (by omega) y), f⟩) (fun ⟨e, f⟩ => ⟨fun k x y => (Classical.em (k = i)).elim (fun w => by rw [w]; omega) (fun w => e k (by omega) y), f⟩)
          exact L68 _ (((gF G 12 (0) 29) - 1)) (100000) (by omega) (Or.inr ⟨fun k a b => by omega, rfl⟩) (Nat.lt_succ_self _)
        · skip
          refine pw_aload r_12_knownFrom_48 rfl ?_
          refine pw_getR r_12_knownFrom_49 fs_12_26 (by decide) ?_
          refine pw_iload r_12_knownFrom_52 rfl ?_
          refine pw_iald r_12_knownFrom_53 sh222 (by omega) (by omega) ?_
          refine pw_iret r_12_knownFrom_54 rfl (Nat.le_refl _) ⟨rfl, ?_⟩
          exact h1 (by omega)
    · skip
      refine pw_const r_12_knownFrom_30 ?_
      refine pw_goto r_12_knownFrom_31 ?_
      refine pw_icmp_ne r_12_knownFrom_35 (fun h35 => ?_) (fun h35 => ?_)
      · skip
        refine pw_const r_12_knownFrom_42 ?_
        refine pw_istore (ls' := [some (vR 12 (0)), some (vI (j)), some (vI (z)), some (vI (0)), none, none]) r_12_knownFrom_43 rfl rfl ?_
        refine pw_iload r_12_knownFrom_44 rfl ?_
        refine pw_if_eq r_12_knownFrom_45 (fun h45 => ?_) (fun h45 => ?_)
        · skip
          refine pw_const r_12_knownFrom_55 ?_
          refine pw_istore (ls' := [some (vR 12 (0)), some (vI (j)), some (vI (z)), some (vI (0)), some (vI (100000)), none]) r_12_knownFrom_58 rfl rfl ?_
          refine pw_aload r_12_knownFrom_60 rfl ?_
          refine pw_getI r_12_knownFrom_61 fs_12_29 (by decide) ?_
          refine pw_const r_12_knownFrom_64 ?_
          refine pw_isub r_12_knownFrom_65 (by omega) ?_
          refine pw_istore (ls' := [some (vR 12 (0)), some (vI (j)), some (vI (z)), some (vI (0)), some (vI (100000)), some (vI (((gF G 12 (0) 29) - 1)))]) r_12_knownFrom_66 rfl rfl ?_
          have L68 : ∀ (nF : Nat) (i v : Int), (hi : -1 ≤ i ∧ i < (gF G 12 0 29)) → (hv : (∃ l, i < l ∧ l < (gF G 12 0 29) ∧ (gA G 222 0 (j)) ≤ (gA G 223 0 (l)) ∧ (∀ k, i < k → k < l → (gA G 223 0 (k)) < (gA G 222 0 (j))) ∧ v = (gA G 223 0 (l)) + 7) ∨ ((∀ k, i < k → k < (gF G 12 0 29) → (gA G 223 0 (k)) < (gA G 222 0 (j))) ∧ v = 100000)) → (i + 1).toNat < nF → PW l w M_X12_knownFrom (d + 0) 68 [some (vR 12 (0)), some (vI (j)), some (vI (z)), some (vI (0)), some (vI (v)), some (vI (i))] [] G P := by
            intro nF
            induction nF with
            | zero => intro _ _ _ _ hM; exact absurd hM (Nat.not_lt_zero _)
            | succ nF ih68 =>
              intro i v hi hv hM68
              refine pw_iload r_12_knownFrom_68 rfl ?_
              refine pw_if_lt r_12_knownFrom_70 (fun h70 => ?_) (fun h70 => ?_)
              · skip
                refine pw_iload r_12_knownFrom_112 rfl ?_
                refine pw_iret r_12_knownFrom_114 rfl (Nat.le_refl _) ⟨rfl, ?_⟩
                have hN : ¬ ((gA G 205 0 ((gA G 219 0 (j)))) = z ↔ (gA G 220 0 (j)) ≠ 2) := by clear hv; omega
                refine pe (h2 hN) (cmF_is ?_).symm
                exact hv.imp (fun ⟨l, a, b, c, e, f⟩ => ⟨l, by omega, b, c, fun k x y => e k (by omega) y, f⟩) (fun ⟨e, f⟩ => ⟨fun k x y => e k (by omega) y, f⟩)
              · skip
                refine pw_aload r_12_knownFrom_73 rfl ?_
                refine pw_getR r_12_knownFrom_74 fs_12_28 (by decide) ?_
                refine pw_iload r_12_knownFrom_77 rfl ?_
                refine pw_iald r_12_knownFrom_79 sh223 (by omega) (by omega) ?_
                refine pw_aload r_12_knownFrom_80 rfl ?_
                refine pw_getR r_12_knownFrom_81 fs_12_26 (by decide) ?_
                refine pw_iload r_12_knownFrom_84 rfl ?_
                refine pw_iald r_12_knownFrom_85 sh222 (by omega) (by omega) ?_
                refine pw_icmp_lt r_12_knownFrom_86 (fun h86 => ?_) (fun h86 => ?_)
                · skip
                  refine pw_iload r_12_knownFrom_102 rfl ?_
                  refine pw_istore (ls' := [some (vR 12 (0)), some (vI (j)), some (vI (z)), some (vI (0)), some (vI (v)), some (vI (i))]) r_12_knownFrom_104 rfl rfl ?_
                  refine pw_iinc (b := 0) (ls' := [some (vR 12 (0)), some (vI (j)), some (vI (z)), some (vI (0)), some (vI (v)), some (vI ((i + (-1))))]) r_12_knownFrom_106 rfl rfl (by omega) rfl ?_
                  refine pw_goto r_12_knownFrom_109 ?_
                  refine ih68 ((i + (-1))) (v) (by omega) ?_ (by omega)
                  · skip
                    first
                      | exact Or.inl ⟨i, by omega, by omega, by omega, fun k a b => by omega, rfl⟩
                      | exact hv.imp (fun ⟨l, a, b, c, e, f⟩ => ⟨l, by omega, b, c, fun k x y => (Classical.em (k = i)).elim (fun w => by rw [w]; omega) (fun w => e k (by omega) y), f⟩) (fun ⟨e, f⟩ => ⟨fun k x y => (Classical.em (k = i)).elim (fun w => by rw [w]; omega) (fun w => e k (by omega) y), f⟩)
                · skip
                  have hs1 := hsent i (by omega) (by omega)
                  refine pw_aload r_12_knownFrom_89 rfl ?_
                  refine pw_getR r_12_knownFrom_90 fs_12_28 (by decide) ?_
                  refine pw_iload r_12_knownFrom_93 rfl ?_
                  refine pw_iald r_12_knownFrom_95 sh223 (by omega) (by omega) ?_
                  refine pw_const r_12_knownFrom_96 ?_
                  refine pw_iadd r_12_knownFrom_98 (by omega) ?_
                  refine pw_goto r_12_knownFrom_99 ?_
                  refine pw_istore (ls' := [some (vR 12 (0)), some (vI (j)), some (vI (z)), some (vI (0)), some (vI (((gA G 223 (0) (i)) + 7))), some (vI (i))]) r_12_knownFrom_104 rfl rfl ?_
                  refine pw_iinc (b := 0) (ls' := [some (vR 12 (0)), some (vI (j)), some (vI (z)), some (vI (0)), some (vI (((gA G 223 (0) (i)) + 7))), some (vI ((i + (-1))))]) r_12_knownFrom_106 rfl rfl (by omega) rfl ?_
                  refine pw_goto r_12_knownFrom_109 ?_
                  refine ih68 ((i + (-1))) (((gA G 223 (0) (i)) + 7)) (by omega) ?_ (by omega)
                  · skip
                    first
                      | exact Or.inl ⟨i, by omega, by omega, by omega, fun k a b => by omega, rfl⟩
                      | exact hv.imp (fun ⟨l, a, b, c, e, f⟩ => ⟨l, by omega, b, c, fun k x y => (Classical.em (k = i)).elim (fun w => by rw [w]; omega) (fun w => e k (by omega) y), f⟩) (fun ⟨e, f⟩ => ⟨fun k x y => (Classical.em (k = i)).elim (fun w => by rw [w]; omega) (fun w => e k (by omega) y), f⟩)
          exact L68 _ (((gF G 12 (0) 29) - 1)) (100000) (by omega) (Or.inr ⟨fun k a b => by omega, rfl⟩) (Nat.lt_succ_self _)
        · skip
          refine pw_aload r_12_knownFrom_48 rfl ?_
          refine pw_getR r_12_knownFrom_49 fs_12_26 (by decide) ?_
          refine pw_iload r_12_knownFrom_52 rfl ?_
          refine pw_iald r_12_knownFrom_53 sh222 (by omega) (by omega) ?_
          refine pw_iret r_12_knownFrom_54 rfl (Nat.le_refl _) ⟨rfl, ?_⟩
          exact h1 (by omega)
      · skip
        refine pw_const r_12_knownFrom_38 ?_
        refine pw_goto r_12_knownFrom_39 ?_
        refine pw_istore (ls' := [some (vR 12 (0)), some (vI (j)), some (vI (z)), some (vI (1)), none, none]) r_12_knownFrom_43 rfl rfl ?_
        refine pw_iload r_12_knownFrom_44 rfl ?_
        refine pw_if_eq r_12_knownFrom_45 (fun h45 => ?_) (fun h45 => ?_)
        · skip
          refine pw_const r_12_knownFrom_55 ?_
          refine pw_istore (ls' := [some (vR 12 (0)), some (vI (j)), some (vI (z)), some (vI (1)), some (vI (100000)), none]) r_12_knownFrom_58 rfl rfl ?_
          refine pw_aload r_12_knownFrom_60 rfl ?_
          refine pw_getI r_12_knownFrom_61 fs_12_29 (by decide) ?_
          refine pw_const r_12_knownFrom_64 ?_
          refine pw_isub r_12_knownFrom_65 (by omega) ?_
          refine pw_istore (ls' := [some (vR 12 (0)), some (vI (j)), some (vI (z)), some (vI (1)), some (vI (100000)), some (vI (((gF G 12 (0) 29) - 1)))]) r_12_knownFrom_66 rfl rfl ?_
          have L68 : ∀ (nF : Nat) (i v : Int), (hi : -1 ≤ i ∧ i < (gF G 12 0 29)) → (hv : (∃ l, i < l ∧ l < (gF G 12 0 29) ∧ (gA G 222 0 (j)) ≤ (gA G 223 0 (l)) ∧ (∀ k, i < k → k < l → (gA G 223 0 (k)) < (gA G 222 0 (j))) ∧ v = (gA G 223 0 (l)) + 7) ∨ ((∀ k, i < k → k < (gF G 12 0 29) → (gA G 223 0 (k)) < (gA G 222 0 (j))) ∧ v = 100000)) → (i + 1).toNat < nF → PW l w M_X12_knownFrom (d + 0) 68 [some (vR 12 (0)), some (vI (j)), some (vI (z)), some (vI (1)), some (vI (v)), some (vI (i))] [] G P := by
            intro nF
            induction nF with
            | zero => intro _ _ _ _ hM; exact absurd hM (Nat.not_lt_zero _)
            | succ nF ih68 =>
              intro i v hi hv hM68
              refine pw_iload r_12_knownFrom_68 rfl ?_
              refine pw_if_lt r_12_knownFrom_70 (fun h70 => ?_) (fun h70 => ?_)
              · skip
                refine pw_iload r_12_knownFrom_112 rfl ?_
                refine pw_iret r_12_knownFrom_114 rfl (Nat.le_refl _) ⟨rfl, ?_⟩
                have hN : ¬ ((gA G 205 0 ((gA G 219 0 (j)))) = z ↔ (gA G 220 0 (j)) ≠ 2) := by clear hv; omega
                refine pe (h2 hN) (cmF_is ?_).symm
                exact hv.imp (fun ⟨l, a, b, c, e, f⟩ => ⟨l, by omega, b, c, fun k x y => e k (by omega) y, f⟩) (fun ⟨e, f⟩ => ⟨fun k x y => e k (by omega) y, f⟩)
              · skip
                refine pw_aload r_12_knownFrom_73 rfl ?_
                refine pw_getR r_12_knownFrom_74 fs_12_28 (by decide) ?_
                refine pw_iload r_12_knownFrom_77 rfl ?_
                refine pw_iald r_12_knownFrom_79 sh223 (by omega) (by omega) ?_
                refine pw_aload r_12_knownFrom_80 rfl ?_
                refine pw_getR r_12_knownFrom_81 fs_12_26 (by decide) ?_
                refine pw_iload r_12_knownFrom_84 rfl ?_
                refine pw_iald r_12_knownFrom_85 sh222 (by omega) (by omega) ?_
                refine pw_icmp_lt r_12_knownFrom_86 (fun h86 => ?_) (fun h86 => ?_)
                · skip
                  refine pw_iload r_12_knownFrom_102 rfl ?_
                  refine pw_istore (ls' := [some (vR 12 (0)), some (vI (j)), some (vI (z)), some (vI (1)), some (vI (v)), some (vI (i))]) r_12_knownFrom_104 rfl rfl ?_
                  refine pw_iinc (b := 0) (ls' := [some (vR 12 (0)), some (vI (j)), some (vI (z)), some (vI (1)), some (vI (v)), some (vI ((i + (-1))))]) r_12_knownFrom_106 rfl rfl (by omega) rfl ?_
                  refine pw_goto r_12_knownFrom_109 ?_
                  refine ih68 ((i + (-1))) (v) (by omega) ?_ (by omega)
                  · skip
                    first
                      | exact Or.inl ⟨i, by omega, by omega, by omega, fun k a b => by omega, rfl⟩
                      | exact hv.imp (fun ⟨l, a, b, c, e, f⟩ => ⟨l, by omega, b, c, fun k x y => (Classical.em (k = i)).elim (fun w => by rw [w]; omega) (fun w => e k (by omega) y), f⟩) (fun ⟨e, f⟩ => ⟨fun k x y => (Classical.em (k = i)).elim (fun w => by rw [w]; omega) (fun w => e k (by omega) y), f⟩)
                · skip
                  have hs1 := hsent i (by omega) (by omega)
                  refine pw_aload r_12_knownFrom_89 rfl ?_
                  refine pw_getR r_12_knownFrom_90 fs_12_28 (by decide) ?_
                  refine pw_iload r_12_knownFrom_93 rfl ?_
                  refine pw_iald r_12_knownFrom_95 sh223 (by omega) (by omega) ?_
                  refine pw_const r_12_knownFrom_96 ?_
                  refine pw_iadd r_12_knownFrom_98 (by omega) ?_
                  refine pw_goto r_12_knownFrom_99 ?_
                  refine pw_istore (ls' := [some (vR 12 (0)), some (vI (j)), some (vI (z)), some (vI (1)), some (vI (((gA G 223 (0) (i)) + 7))), some (vI (i))]) r_12_knownFrom_104 rfl rfl ?_
                  refine pw_iinc (b := 0) (ls' := [some (vR 12 (0)), some (vI (j)), some (vI (z)), some (vI (1)), some (vI (((gA G 223 (0) (i)) + 7))), some (vI ((i + (-1))))]) r_12_knownFrom_106 rfl rfl (by omega) rfl ?_
                  refine pw_goto r_12_knownFrom_109 ?_
                  refine ih68 ((i + (-1))) (((gA G 223 (0) (i)) + 7)) (by omega) ?_ (by omega)
                  · skip
                    first
                      | exact Or.inl ⟨i, by omega, by omega, by omega, fun k a b => by omega, rfl⟩
                      | exact hv.imp (fun ⟨l, a, b, c, e, f⟩ => ⟨l, by omega, b, c, fun k x y => (Classical.em (k = i)).elim (fun w => by rw [w]; omega) (fun w => e k (by omega) y), f⟩) (fun ⟨e, f⟩ => ⟨fun k x y => (Classical.em (k = i)).elim (fun w => by rw [w]; omega) (fun w => e k (by omega) y), f⟩)
          exact L68 _ (((gF G 12 (0) 29) - 1)) (100000) (by omega) (Or.inr ⟨fun k a b => by omega, rfl⟩) (Nat.lt_succ_self _)
        · skip
          refine pw_aload r_12_knownFrom_48 rfl ?_
          refine pw_getR r_12_knownFrom_49 fs_12_26 (by decide) ?_
          refine pw_iload r_12_knownFrom_52 rfl ?_
          refine pw_iald r_12_knownFrom_53 sh222 (by omega) (by omega) ?_
          refine pw_iret r_12_knownFrom_54 rfl (Nat.le_refl _) ⟨rfl, ?_⟩
          exact h1 (by omega)
  · skip
    refine pw_const r_12_knownFrom_15 ?_
    refine pw_goto r_12_knownFrom_16 ?_
    refine pw_aload r_12_knownFrom_20 rfl ?_
    refine pw_getR r_12_knownFrom_21 fs_12_24 (by decide) ?_
    refine pw_iload r_12_knownFrom_24 rfl ?_
    refine pw_iald r_12_knownFrom_25 sh220 (by omega) (by omega) ?_
    refine pw_const r_12_knownFrom_26 ?_
    refine pw_icmp_eq r_12_knownFrom_27 (fun h27 => ?_) (fun h27 => ?_)
    · skip
      refine pw_const r_12_knownFrom_34 ?_
      refine pw_icmp_ne r_12_knownFrom_35 (fun h35 => ?_) (fun h35 => ?_)
      · skip
        refine pw_const r_12_knownFrom_42 ?_
        refine pw_istore (ls' := [some (vR 12 (0)), some (vI (j)), some (vI (z)), some (vI (0)), none, none]) r_12_knownFrom_43 rfl rfl ?_
        refine pw_iload r_12_knownFrom_44 rfl ?_
        refine pw_if_eq r_12_knownFrom_45 (fun h45 => ?_) (fun h45 => ?_)
        · skip
          refine pw_const r_12_knownFrom_55 ?_
          refine pw_istore (ls' := [some (vR 12 (0)), some (vI (j)), some (vI (z)), some (vI (0)), some (vI (100000)), none]) r_12_knownFrom_58 rfl rfl ?_
          refine pw_aload r_12_knownFrom_60 rfl ?_
          refine pw_getI r_12_knownFrom_61 fs_12_29 (by decide) ?_
          refine pw_const r_12_knownFrom_64 ?_
          refine pw_isub r_12_knownFrom_65 (by omega) ?_
          refine pw_istore (ls' := [some (vR 12 (0)), some (vI (j)), some (vI (z)), some (vI (0)), some (vI (100000)), some (vI (((gF G 12 (0) 29) - 1)))]) r_12_knownFrom_66 rfl rfl ?_
          have L68 : ∀ (nF : Nat) (i v : Int), (hi : -1 ≤ i ∧ i < (gF G 12 0 29)) → (hv : (∃ l, i < l ∧ l < (gF G 12 0 29) ∧ (gA G 222 0 (j)) ≤ (gA G 223 0 (l)) ∧ (∀ k, i < k → k < l → (gA G 223 0 (k)) < (gA G 222 0 (j))) ∧ v = (gA G 223 0 (l)) + 7) ∨ ((∀ k, i < k → k < (gF G 12 0 29) → (gA G 223 0 (k)) < (gA G 222 0 (j))) ∧ v = 100000)) → (i + 1).toNat < nF → PW l w M_X12_knownFrom (d + 0) 68 [some (vR 12 (0)), some (vI (j)), some (vI (z)), some (vI (0)), some (vI (v)), some (vI (i))] [] G P := by
            intro nF
            induction nF with
            | zero => intro _ _ _ _ hM; exact absurd hM (Nat.not_lt_zero _)
            | succ nF ih68 =>
              intro i v hi hv hM68
              refine pw_iload r_12_knownFrom_68 rfl ?_
              refine pw_if_lt r_12_knownFrom_70 (fun h70 => ?_) (fun h70 => ?_)
              · skip
                refine pw_iload r_12_knownFrom_112 rfl ?_
                refine pw_iret r_12_knownFrom_114 rfl (Nat.le_refl _) ⟨rfl, ?_⟩
                have hN : ¬ ((gA G 205 0 ((gA G 219 0 (j)))) = z ↔ (gA G 220 0 (j)) ≠ 2) := by clear hv; omega
                refine pe (h2 hN) (cmF_is ?_).symm
                exact hv.imp (fun ⟨l, a, b, c, e, f⟩ => ⟨l, by omega, b, c, fun k x y => e k (by omega) y, f⟩) (fun ⟨e, f⟩ => ⟨fun k x y => e k (by omega) y, f⟩)
              · skip
                refine pw_aload r_12_knownFrom_73 rfl ?_
                refine pw_getR r_12_knownFrom_74 fs_12_28 (by decide) ?_
                refine pw_iload r_12_knownFrom_77 rfl ?_
                refine pw_iald r_12_knownFrom_79 sh223 (by omega) (by omega) ?_
                refine pw_aload r_12_knownFrom_80 rfl ?_
                refine pw_getR r_12_knownFrom_81 fs_12_26 (by decide) ?_
                refine pw_iload r_12_knownFrom_84 rfl ?_
                refine pw_iald r_12_knownFrom_85 sh222 (by omega) (by omega) ?_
                refine pw_icmp_lt r_12_knownFrom_86 (fun h86 => ?_) (fun h86 => ?_)
                · skip
                  refine pw_iload r_12_knownFrom_102 rfl ?_
                  refine pw_istore (ls' := [some (vR 12 (0)), some (vI (j)), some (vI (z)), some (vI (0)), some (vI (v)), some (vI (i))]) r_12_knownFrom_104 rfl rfl ?_
                  refine pw_iinc (b := 0) (ls' := [some (vR 12 (0)), some (vI (j)), some (vI (z)), some (vI (0)), some (vI (v)), some (vI ((i + (-1))))]) r_12_knownFrom_106 rfl rfl (by omega) rfl ?_
                  refine pw_goto r_12_knownFrom_109 ?_
                  refine ih68 ((i + (-1))) (v) (by omega) ?_ (by omega)
                  · skip
                    first
                      | exact Or.inl ⟨i, by omega, by omega, by omega, fun k a b => by omega, rfl⟩
                      | exact hv.imp (fun ⟨l, a, b, c, e, f⟩ => ⟨l, by omega, b, c, fun k x y => (Classical.em (k = i)).elim (fun w => by rw [w]; omega) (fun w => e k (by omega) y), f⟩) (fun ⟨e, f⟩ => ⟨fun k x y => (Classical.em (k = i)).elim (fun w => by rw [w]; omega) (fun w => e k (by omega) y), f⟩)
                · skip
                  have hs1 := hsent i (by omega) (by omega)
                  refine pw_aload r_12_knownFrom_89 rfl ?_
                  refine pw_getR r_12_knownFrom_90 fs_12_28 (by decide) ?_
                  refine pw_iload r_12_knownFrom_93 rfl ?_
                  refine pw_iald r_12_knownFrom_95 sh223 (by omega) (by omega) ?_
                  refine pw_const r_12_knownFrom_96 ?_
                  refine pw_iadd r_12_knownFrom_98 (by omega) ?_
                  refine pw_goto r_12_knownFrom_99 ?_
                  refine pw_istore (ls' := [some (vR 12 (0)), some (vI (j)), some (vI (z)), some (vI (0)), some (vI (((gA G 223 (0) (i)) + 7))), some (vI (i))]) r_12_knownFrom_104 rfl rfl ?_
                  refine pw_iinc (b := 0) (ls' := [some (vR 12 (0)), some (vI (j)), some (vI (z)), some (vI (0)), some (vI (((gA G 223 (0) (i)) + 7))), some (vI ((i + (-1))))]) r_12_knownFrom_106 rfl rfl (by omega) rfl ?_
                  refine pw_goto r_12_knownFrom_109 ?_
                  refine ih68 ((i + (-1))) (((gA G 223 (0) (i)) + 7)) (by omega) ?_ (by omega)
                  · skip
                    first
                      | exact Or.inl ⟨i, by omega, by omega, by omega, fun k a b => by omega, rfl⟩
                      | exact hv.imp (fun ⟨l, a, b, c, e, f⟩ => ⟨l, by omega, b, c, fun k x y => (Classical.em (k = i)).elim (fun w => by rw [w]; omega) (fun w => e k (by omega) y), f⟩) (fun ⟨e, f⟩ => ⟨fun k x y => (Classical.em (k = i)).elim (fun w => by rw [w]; omega) (fun w => e k (by omega) y), f⟩)
          exact L68 _ (((gF G 12 (0) 29) - 1)) (100000) (by omega) (Or.inr ⟨fun k a b => by omega, rfl⟩) (Nat.lt_succ_self _)
        · skip
          refine pw_aload r_12_knownFrom_48 rfl ?_
          refine pw_getR r_12_knownFrom_49 fs_12_26 (by decide) ?_
          refine pw_iload r_12_knownFrom_52 rfl ?_
          refine pw_iald r_12_knownFrom_53 sh222 (by omega) (by omega) ?_
          refine pw_iret r_12_knownFrom_54 rfl (Nat.le_refl _) ⟨rfl, ?_⟩
          exact h1 (by omega)
      · skip
        refine pw_const r_12_knownFrom_38 ?_
        refine pw_goto r_12_knownFrom_39 ?_
        refine pw_istore (ls' := [some (vR 12 (0)), some (vI (j)), some (vI (z)), some (vI (1)), none, none]) r_12_knownFrom_43 rfl rfl ?_
        refine pw_iload r_12_knownFrom_44 rfl ?_
        refine pw_if_eq r_12_knownFrom_45 (fun h45 => ?_) (fun h45 => ?_)
        · skip
          refine pw_const r_12_knownFrom_55 ?_
          refine pw_istore (ls' := [some (vR 12 (0)), some (vI (j)), some (vI (z)), some (vI (1)), some (vI (100000)), none]) r_12_knownFrom_58 rfl rfl ?_
          refine pw_aload r_12_knownFrom_60 rfl ?_
          refine pw_getI r_12_knownFrom_61 fs_12_29 (by decide) ?_
          refine pw_const r_12_knownFrom_64 ?_
          refine pw_isub r_12_knownFrom_65 (by omega) ?_
          refine pw_istore (ls' := [some (vR 12 (0)), some (vI (j)), some (vI (z)), some (vI (1)), some (vI (100000)), some (vI (((gF G 12 (0) 29) - 1)))]) r_12_knownFrom_66 rfl rfl ?_
          have L68 : ∀ (nF : Nat) (i v : Int), (hi : -1 ≤ i ∧ i < (gF G 12 0 29)) → (hv : (∃ l, i < l ∧ l < (gF G 12 0 29) ∧ (gA G 222 0 (j)) ≤ (gA G 223 0 (l)) ∧ (∀ k, i < k → k < l → (gA G 223 0 (k)) < (gA G 222 0 (j))) ∧ v = (gA G 223 0 (l)) + 7) ∨ ((∀ k, i < k → k < (gF G 12 0 29) → (gA G 223 0 (k)) < (gA G 222 0 (j))) ∧ v = 100000)) → (i + 1).toNat < nF → PW l w M_X12_knownFrom (d + 0) 68 [some (vR 12 (0)), some (vI (j)), some (vI (z)), some (vI (1)), some (vI (v)), some (vI (i))] [] G P := by
            intro nF
            induction nF with
            | zero => intro _ _ _ _ hM; exact absurd hM (Nat.not_lt_zero _)
            | succ nF ih68 =>
              intro i v hi hv hM68
              refine pw_iload r_12_knownFrom_68 rfl ?_
              refine pw_if_lt r_12_knownFrom_70 (fun h70 => ?_) (fun h70 => ?_)
              · skip
                refine pw_iload r_12_knownFrom_112 rfl ?_
                refine pw_iret r_12_knownFrom_114 rfl (Nat.le_refl _) ⟨rfl, ?_⟩
                have hN : ¬ ((gA G 205 0 ((gA G 219 0 (j)))) = z ↔ (gA G 220 0 (j)) ≠ 2) := by clear hv; omega
                refine pe (h2 hN) (cmF_is ?_).symm
                exact hv.imp (fun ⟨l, a, b, c, e, f⟩ => ⟨l, by omega, b, c, fun k x y => e k (by omega) y, f⟩) (fun ⟨e, f⟩ => ⟨fun k x y => e k (by omega) y, f⟩)
              · skip
                refine pw_aload r_12_knownFrom_73 rfl ?_
                refine pw_getR r_12_knownFrom_74 fs_12_28 (by decide) ?_
                refine pw_iload r_12_knownFrom_77 rfl ?_
                refine pw_iald r_12_knownFrom_79 sh223 (by omega) (by omega) ?_
                refine pw_aload r_12_knownFrom_80 rfl ?_
                refine pw_getR r_12_knownFrom_81 fs_12_26 (by decide) ?_
                refine pw_iload r_12_knownFrom_84 rfl ?_
                refine pw_iald r_12_knownFrom_85 sh222 (by omega) (by omega) ?_
                refine pw_icmp_lt r_12_knownFrom_86 (fun h86 => ?_) (fun h86 => ?_)
                · skip
                  refine pw_iload r_12_knownFrom_102 rfl ?_
                  refine pw_istore (ls' := [some (vR 12 (0)), some (vI (j)), some (vI (z)), some (vI (1)), some (vI (v)), some (vI (i))]) r_12_knownFrom_104 rfl rfl ?_
                  refine pw_iinc (b := 0) (ls' := [some (vR 12 (0)), some (vI (j)), some (vI (z)), some (vI (1)), some (vI (v)), some (vI ((i + (-1))))]) r_12_knownFrom_106 rfl rfl (by omega) rfl ?_
                  refine pw_goto r_12_knownFrom_109 ?_
                  refine ih68 ((i + (-1))) (v) (by omega) ?_ (by omega)
                  · skip
                    first
                      | exact Or.inl ⟨i, by omega, by omega, by omega, fun k a b => by omega, rfl⟩
                      | exact hv.imp (fun ⟨l, a, b, c, e, f⟩ => ⟨l, by omega, b, c, fun k x y => (Classical.em (k = i)).elim (fun w => by rw [w]; omega) (fun w => e k (by omega) y), f⟩) (fun ⟨e, f⟩ => ⟨fun k x y => (Classical.em (k = i)).elim (fun w => by rw [w]; omega) (fun w => e k (by omega) y), f⟩)
                · skip
                  have hs1 := hsent i (by omega) (by omega)
                  refine pw_aload r_12_knownFrom_89 rfl ?_
                  refine pw_getR r_12_knownFrom_90 fs_12_28 (by decide) ?_
                  refine pw_iload r_12_knownFrom_93 rfl ?_
                  refine pw_iald r_12_knownFrom_95 sh223 (by omega) (by omega) ?_
                  refine pw_const r_12_knownFrom_96 ?_
                  refine pw_iadd r_12_knownFrom_98 (by omega) ?_
                  refine pw_goto r_12_knownFrom_99 ?_
                  refine pw_istore (ls' := [some (vR 12 (0)), some (vI (j)), some (vI (z)), some (vI (1)), some (vI (((gA G 223 (0) (i)) + 7))), some (vI (i))]) r_12_knownFrom_104 rfl rfl ?_
                  refine pw_iinc (b := 0) (ls' := [some (vR 12 (0)), some (vI (j)), some (vI (z)), some (vI (1)), some (vI (((gA G 223 (0) (i)) + 7))), some (vI ((i + (-1))))]) r_12_knownFrom_106 rfl rfl (by omega) rfl ?_
                  refine pw_goto r_12_knownFrom_109 ?_
                  refine ih68 ((i + (-1))) (((gA G 223 (0) (i)) + 7)) (by omega) ?_ (by omega)
                  · skip
                    first
                      | exact Or.inl ⟨i, by omega, by omega, by omega, fun k a b => by omega, rfl⟩
                      | exact hv.imp (fun ⟨l, a, b, c, e, f⟩ => ⟨l, by omega, b, c, fun k x y => (Classical.em (k = i)).elim (fun w => by rw [w]; omega) (fun w => e k (by omega) y), f⟩) (fun ⟨e, f⟩ => ⟨fun k x y => (Classical.em (k = i)).elim (fun w => by rw [w]; omega) (fun w => e k (by omega) y), f⟩)
          exact L68 _ (((gF G 12 (0) 29) - 1)) (100000) (by omega) (Or.inr ⟨fun k a b => by omega, rfl⟩) (Nat.lt_succ_self _)
        · skip
          refine pw_aload r_12_knownFrom_48 rfl ?_
          refine pw_getR r_12_knownFrom_49 fs_12_26 (by decide) ?_
          refine pw_iload r_12_knownFrom_52 rfl ?_
          refine pw_iald r_12_knownFrom_53 sh222 (by omega) (by omega) ?_
          refine pw_iret r_12_knownFrom_54 rfl (Nat.le_refl _) ⟨rfl, ?_⟩
          exact h1 (by omega)
    · skip
      refine pw_const r_12_knownFrom_30 ?_
      refine pw_goto r_12_knownFrom_31 ?_
      refine pw_icmp_ne r_12_knownFrom_35 (fun h35 => ?_) (fun h35 => ?_)
      · skip
        refine pw_const r_12_knownFrom_42 ?_
        refine pw_istore (ls' := [some (vR 12 (0)), some (vI (j)), some (vI (z)), some (vI (0)), none, none]) r_12_knownFrom_43 rfl rfl ?_
        refine pw_iload r_12_knownFrom_44 rfl ?_
        refine pw_if_eq r_12_knownFrom_45 (fun h45 => ?_) (fun h45 => ?_)
        · skip
          refine pw_const r_12_knownFrom_55 ?_
          refine pw_istore (ls' := [some (vR 12 (0)), some (vI (j)), some (vI (z)), some (vI (0)), some (vI (100000)), none]) r_12_knownFrom_58 rfl rfl ?_
          refine pw_aload r_12_knownFrom_60 rfl ?_
          refine pw_getI r_12_knownFrom_61 fs_12_29 (by decide) ?_
          refine pw_const r_12_knownFrom_64 ?_
          refine pw_isub r_12_knownFrom_65 (by omega) ?_
          refine pw_istore (ls' := [some (vR 12 (0)), some (vI (j)), some (vI (z)), some (vI (0)), some (vI (100000)), some (vI (((gF G 12 (0) 29) - 1)))]) r_12_knownFrom_66 rfl rfl ?_
          have L68 : ∀ (nF : Nat) (i v : Int), (hi : -1 ≤ i ∧ i < (gF G 12 0 29)) → (hv : (∃ l, i < l ∧ l < (gF G 12 0 29) ∧ (gA G 222 0 (j)) ≤ (gA G 223 0 (l)) ∧ (∀ k, i < k → k < l → (gA G 223 0 (k)) < (gA G 222 0 (j))) ∧ v = (gA G 223 0 (l)) + 7) ∨ ((∀ k, i < k → k < (gF G 12 0 29) → (gA G 223 0 (k)) < (gA G 222 0 (j))) ∧ v = 100000)) → (i + 1).toNat < nF → PW l w M_X12_knownFrom (d + 0) 68 [some (vR 12 (0)), some (vI (j)), some (vI (z)), some (vI (0)), some (vI (v)), some (vI (i))] [] G P := by
            intro nF
            induction nF with
            | zero => intro _ _ _ _ hM; exact absurd hM (Nat.not_lt_zero _)
            | succ nF ih68 =>
              intro i v hi hv hM68
              refine pw_iload r_12_knownFrom_68 rfl ?_
              refine pw_if_lt r_12_knownFrom_70 (fun h70 => ?_) (fun h70 => ?_)
              · skip
                refine pw_iload r_12_knownFrom_112 rfl ?_
                refine pw_iret r_12_knownFrom_114 rfl (Nat.le_refl _) ⟨rfl, ?_⟩
                have hN : ¬ ((gA G 205 0 ((gA G 219 0 (j)))) = z ↔ (gA G 220 0 (j)) ≠ 2) := by clear hv; omega
                refine pe (h2 hN) (cmF_is ?_).symm
                exact hv.imp (fun ⟨l, a, b, c, e, f⟩ => ⟨l, by omega, b, c, fun k x y => e k (by omega) y, f⟩) (fun ⟨e, f⟩ => ⟨fun k x y => e k (by omega) y, f⟩)
              · skip
                refine pw_aload r_12_knownFrom_73 rfl ?_
                refine pw_getR r_12_knownFrom_74 fs_12_28 (by decide) ?_
                refine pw_iload r_12_knownFrom_77 rfl ?_
                refine pw_iald r_12_knownFrom_79 sh223 (by omega) (by omega) ?_
                refine pw_aload r_12_knownFrom_80 rfl ?_
                refine pw_getR r_12_knownFrom_81 fs_12_26 (by decide) ?_
                refine pw_iload r_12_knownFrom_84 rfl ?_
                refine pw_iald r_12_knownFrom_85 sh222 (by omega) (by omega) ?_
                refine pw_icmp_lt r_12_knownFrom_86 (fun h86 => ?_) (fun h86 => ?_)
                · skip
                  refine pw_iload r_12_knownFrom_102 rfl ?_
                  refine pw_istore (ls' := [some (vR 12 (0)), some (vI (j)), some (vI (z)), some (vI (0)), some (vI (v)), some (vI (i))]) r_12_knownFrom_104 rfl rfl ?_
                  refine pw_iinc (b := 0) (ls' := [some (vR 12 (0)), some (vI (j)), some (vI (z)), some (vI (0)), some (vI (v)), some (vI ((i + (-1))))]) r_12_knownFrom_106 rfl rfl (by omega) rfl ?_
                  refine pw_goto r_12_knownFrom_109 ?_
                  refine ih68 ((i + (-1))) (v) (by omega) ?_ (by omega)
                  · skip
                    first
                      | exact Or.inl ⟨i, by omega, by omega, by omega, fun k a b => by omega, rfl⟩
                      | exact hv.imp (fun ⟨l, a, b, c, e, f⟩ => ⟨l, by omega, b, c, fun k x y => (Classical.em (k = i)).elim (fun w => by rw [w]; omega) (fun w => e k (by omega) y), f⟩) (fun ⟨e, f⟩ => ⟨fun k x y => (Classical.em (k = i)).elim (fun w => by rw [w]; omega) (fun w => e k (by omega) y), f⟩)
                · skip
                  have hs1 := hsent i (by omega) (by omega)
                  refine pw_aload r_12_knownFrom_89 rfl ?_
                  refine pw_getR r_12_knownFrom_90 fs_12_28 (by decide) ?_
                  refine pw_iload r_12_knownFrom_93 rfl ?_
                  refine pw_iald r_12_knownFrom_95 sh223 (by omega) (by omega) ?_
                  refine pw_const r_12_knownFrom_96 ?_
                  refine pw_iadd r_12_knownFrom_98 (by omega) ?_
                  refine pw_goto r_12_knownFrom_99 ?_
                  refine pw_istore (ls' := [some (vR 12 (0)), some (vI (j)), some (vI (z)), some (vI (0)), some (vI (((gA G 223 (0) (i)) + 7))), some (vI (i))]) r_12_knownFrom_104 rfl rfl ?_
                  refine pw_iinc (b := 0) (ls' := [some (vR 12 (0)), some (vI (j)), some (vI (z)), some (vI (0)), some (vI (((gA G 223 (0) (i)) + 7))), some (vI ((i + (-1))))]) r_12_knownFrom_106 rfl rfl (by omega) rfl ?_
                  refine pw_goto r_12_knownFrom_109 ?_
                  refine ih68 ((i + (-1))) (((gA G 223 (0) (i)) + 7)) (by omega) ?_ (by omega)
                  · skip
                    first
                      | exact Or.inl ⟨i, by omega, by omega, by omega, fun k a b => by omega, rfl⟩
                      | exact hv.imp (fun ⟨l, a, b, c, e, f⟩ => ⟨l, by omega, b, c, fun k x y => (Classical.em (k = i)).elim (fun w => by rw [w]; omega) (fun w => e k (by omega) y), f⟩) (fun ⟨e, f⟩ => ⟨fun k x y => (Classical.em (k = i)).elim (fun w => by rw [w]; omega) (fun w => e k (by omega) y), f⟩)
          exact L68 _ (((gF G 12 (0) 29) - 1)) (100000) (by omega) (Or.inr ⟨fun k a b => by omega, rfl⟩) (Nat.lt_succ_self _)
        · skip
          refine pw_aload r_12_knownFrom_48 rfl ?_
          refine pw_getR r_12_knownFrom_49 fs_12_26 (by decide) ?_
          refine pw_iload r_12_knownFrom_52 rfl ?_
          refine pw_iald r_12_knownFrom_53 sh222 (by omega) (by omega) ?_
          refine pw_iret r_12_knownFrom_54 rfl (Nat.le_refl _) ⟨rfl, ?_⟩
          exact h1 (by omega)
      · skip
        refine pw_const r_12_knownFrom_38 ?_
        refine pw_goto r_12_knownFrom_39 ?_
        refine pw_istore (ls' := [some (vR 12 (0)), some (vI (j)), some (vI (z)), some (vI (1)), none, none]) r_12_knownFrom_43 rfl rfl ?_
        refine pw_iload r_12_knownFrom_44 rfl ?_
        refine pw_if_eq r_12_knownFrom_45 (fun h45 => ?_) (fun h45 => ?_)
        · skip
          refine pw_const r_12_knownFrom_55 ?_
          refine pw_istore (ls' := [some (vR 12 (0)), some (vI (j)), some (vI (z)), some (vI (1)), some (vI (100000)), none]) r_12_knownFrom_58 rfl rfl ?_
          refine pw_aload r_12_knownFrom_60 rfl ?_
          refine pw_getI r_12_knownFrom_61 fs_12_29 (by decide) ?_
          refine pw_const r_12_knownFrom_64 ?_
          refine pw_isub r_12_knownFrom_65 (by omega) ?_
          refine pw_istore (ls' := [some (vR 12 (0)), some (vI (j)), some (vI (z)), some (vI (1)), some (vI (100000)), some (vI (((gF G 12 (0) 29) - 1)))]) r_12_knownFrom_66 rfl rfl ?_
          have L68 : ∀ (nF : Nat) (i v : Int), (hi : -1 ≤ i ∧ i < (gF G 12 0 29)) → (hv : (∃ l, i < l ∧ l < (gF G 12 0 29) ∧ (gA G 222 0 (j)) ≤ (gA G 223 0 (l)) ∧ (∀ k, i < k → k < l → (gA G 223 0 (k)) < (gA G 222 0 (j))) ∧ v = (gA G 223 0 (l)) + 7) ∨ ((∀ k, i < k → k < (gF G 12 0 29) → (gA G 223 0 (k)) < (gA G 222 0 (j))) ∧ v = 100000)) → (i + 1).toNat < nF → PW l w M_X12_knownFrom (d + 0) 68 [some (vR 12 (0)), some (vI (j)), some (vI (z)), some (vI (1)), some (vI (v)), some (vI (i))] [] G P := by
            intro nF
            induction nF with
            | zero => intro _ _ _ _ hM; exact absurd hM (Nat.not_lt_zero _)
            | succ nF ih68 =>
              intro i v hi hv hM68
              refine pw_iload r_12_knownFrom_68 rfl ?_
              refine pw_if_lt r_12_knownFrom_70 (fun h70 => ?_) (fun h70 => ?_)
              · skip
                refine pw_iload r_12_knownFrom_112 rfl ?_
                refine pw_iret r_12_knownFrom_114 rfl (Nat.le_refl _) ⟨rfl, ?_⟩
                have hN : ¬ ((gA G 205 0 ((gA G 219 0 (j)))) = z ↔ (gA G 220 0 (j)) ≠ 2) := by clear hv; omega
                refine pe (h2 hN) (cmF_is ?_).symm
                exact hv.imp (fun ⟨l, a, b, c, e, f⟩ => ⟨l, by omega, b, c, fun k x y => e k (by omega) y, f⟩) (fun ⟨e, f⟩ => ⟨fun k x y => e k (by omega) y, f⟩)
              · skip
                refine pw_aload r_12_knownFrom_73 rfl ?_
                refine pw_getR r_12_knownFrom_74 fs_12_28 (by decide) ?_
                refine pw_iload r_12_knownFrom_77 rfl ?_
                refine pw_iald r_12_knownFrom_79 sh223 (by omega) (by omega) ?_
                refine pw_aload r_12_knownFrom_80 rfl ?_
                refine pw_getR r_12_knownFrom_81 fs_12_26 (by decide) ?_
                refine pw_iload r_12_knownFrom_84 rfl ?_
                refine pw_iald r_12_knownFrom_85 sh222 (by omega) (by omega) ?_
                refine pw_icmp_lt r_12_knownFrom_86 (fun h86 => ?_) (fun h86 => ?_)
                · skip
                  refine pw_iload r_12_knownFrom_102 rfl ?_
                  refine pw_istore (ls' := [some (vR 12 (0)), some (vI (j)), some (vI (z)), some (vI (1)), some (vI (v)), some (vI (i))]) r_12_knownFrom_104 rfl rfl ?_
                  refine pw_iinc (b := 0) (ls' := [some (vR 12 (0)), some (vI (j)), some (vI (z)), some (vI (1)), some (vI (v)), some (vI ((i + (-1))))]) r_12_knownFrom_106 rfl rfl (by omega) rfl ?_
                  refine pw_goto r_12_knownFrom_109 ?_
                  refine ih68 ((i + (-1))) (v) (by omega) ?_ (by omega)
                  · skip
                    first
                      | exact Or.inl ⟨i, by omega, by omega, by omega, fun k a b => by omega, rfl⟩
                      | exact hv.imp (fun ⟨l, a, b, c, e, f⟩ => ⟨l, by omega, b, c, fun k x y => (Classical.em (k = i)).elim (fun w => by rw [w]; omega) (fun w => e k (by omega) y), f⟩) (fun ⟨e, f⟩ => ⟨fun k x y => (Classical.em (k = i)).elim (fun w => by rw [w]; omega) (fun w => e k (by omega) y), f⟩)
                · skip
                  have hs1 := hsent i (by omega) (by omega)
                  refine pw_aload r_12_knownFrom_89 rfl ?_
                  refine pw_getR r_12_knownFrom_90 fs_12_28 (by decide) ?_
                  refine pw_iload r_12_knownFrom_93 rfl ?_
                  refine pw_iald r_12_knownFrom_95 sh223 (by omega) (by omega) ?_
                  refine pw_const r_12_knownFrom_96 ?_
                  refine pw_iadd r_12_knownFrom_98 (by omega) ?_
                  refine pw_goto r_12_knownFrom_99 ?_
                  refine pw_istore (ls' := [some (vR 12 (0)), some (vI (j)), some (vI (z)), some (vI (1)), some (vI (((gA G 223 (0) (i)) + 7))), some (vI (i))]) r_12_knownFrom_104 rfl rfl ?_
                  refine pw_iinc (b := 0) (ls' := [some (vR 12 (0)), some (vI (j)), some (vI (z)), some (vI (1)), some (vI (((gA G 223 (0) (i)) + 7))), some (vI ((i + (-1))))]) r_12_knownFrom_106 rfl rfl (by omega) rfl ?_
                  refine pw_goto r_12_knownFrom_109 ?_
                  refine ih68 ((i + (-1))) (((gA G 223 (0) (i)) + 7)) (by omega) ?_ (by omega)
                  · skip
                    first
                      | exact Or.inl ⟨i, by omega, by omega, by omega, fun k a b => by omega, rfl⟩
                      | exact hv.imp (fun ⟨l, a, b, c, e, f⟩ => ⟨l, by omega, b, c, fun k x y => (Classical.em (k = i)).elim (fun w => by rw [w]; omega) (fun w => e k (by omega) y), f⟩) (fun ⟨e, f⟩ => ⟨fun k x y => (Classical.em (k = i)).elim (fun w => by rw [w]; omega) (fun w => e k (by omega) y), f⟩)
          exact L68 _ (((gF G 12 (0) 29) - 1)) (100000) (by omega) (Or.inr ⟨fun k a b => by omega, rfl⟩) (Nat.lt_succ_self _)
        · skip
          refine pw_aload r_12_knownFrom_48 rfl ?_
          refine pw_getR r_12_knownFrom_49 fs_12_26 (by decide) ?_
          refine pw_iload r_12_knownFrom_52 rfl ?_
          refine pw_iald r_12_knownFrom_53 sh222 (by omega) (by omega) ?_
          refine pw_iret r_12_knownFrom_54 rfl (Nat.le_refl _) ⟨rfl, ?_⟩
          exact h1 (by omega)
set_option maxRecDepth 10000 in
theorem sp_X12_knownTo {l : Launch} {w : Wo} {d : Nat} {G : PH} {P : Option PV → PH → Prop} {z p s k : Int} (hf : 0 ≤ (gF G 12 0 27) ∧ (gF G 12 0 27) ≤ 300) (hlt : 0 ≤ (gF G 12 0 29) ∧ (gF G 12 0 29) ≤ 60) (hofs : ∀ i, 0 ≤ i → i < (gF G 12 0 27) → 0 ≤ (gA G 219 0 (i)) ∧ (gA G 219 0 (i)) < 150) (hsent : ∀ l, 0 ≤ l → l < (gF G 12 0 29) → 0 ≤ (gA G 223 0 (l)) ∧ (gA G 223 0 (l)) ≤ 600) (hP : P (some (vI (lastOf (fun i => ((gA G 219 0 (i)) = p ∧ (gA G 220 0 (i)) = s ∧ ((((gA G 205 0 ((gA G 219 0 (i)))) = z ↔ (gA G 220 0 (i)) ≠ 2) ∧ (gA G 222 0 (i)) ≤ k) ∨ (¬ ((gA G 205 0 ((gA G 219 0 (i)))) = z ↔ (gA G 220 0 (i)) ≠ 2) ∧ cmF (gF G 12 0 29) (gA G 223 0) (gA G 222 0 (i)) 100000 ≤ k)))) (gA G 221 0) 0 (gF G 12 0 27)))) G) : PW l w M_X12_knownTo (d + 1) 0 [some (vR 12 (0)), some (vI (z)), some (vI (p)), some (vI (s)), some (vI (k)), none, none] [] G P := by
  refine pw_const r_12_knownTo_0 ?_
  refine pw_istore (ls' := [some (vR 12 (0)), some (vI (z)), some (vI (p)), some (vI (s)), some (vI (k)), some (vI (0)), none]) r_12_knownTo_1 rfl rfl ?_
  refine pw_const r_12_knownTo_3 ?_
  refine pw_istore (ls' := [some (vR 12 (0)), some (vI (z)), some (vI (p)), some (vI (s)), some (vI (k)), some (vI (0)), some (vI (0))]) r_12_knownTo_4 rfl rfl ?_
  have L6 : ∀ (nF : Nat) (i v : Int), (hi : 0 ≤ i ∧ i ≤ (gF G 12 0 27)) → (hv : v = lastOf (fun i => ((gA G 219 0 (i)) = p ∧ (gA G 220 0 (i)) = s ∧ ((((gA G 205 0 ((gA G 219 0 (i)))) = z ↔ (gA G 220 0 (i)) ≠ 2) ∧ (gA G 222 0 (i)) ≤ k) ∨ (¬ ((gA G 205 0 ((gA G 219 0 (i)))) = z ↔ (gA G 220 0 (i)) ≠ 2) ∧ cmF (gF G 12 0 29) (gA G 223 0) (gA G 222 0 (i)) 100000 ≤ k)))) (gA G 221 0) 0 i) → ((gF G 12 0 27) - i).toNat < nF → PW l w M_X12_knownTo (d + 1) 6 [some (vR 12 (0)), some (vI (z)), some (vI (p)), some (vI (s)), some (vI (k)), some (vI (v)), some (vI (i))] [] G P := by
    intro nF
    induction nF with
    | zero => intro _ _ _ _ hM; exact absurd hM (Nat.not_lt_zero _)
    | succ nF ih6 =>
      intro i v hi hv hM6
      refine pw_iload r_12_knownTo_6 rfl ?_
      refine pw_aload r_12_knownTo_8 rfl ?_
      refine pw_getI r_12_knownTo_9 fs_12_27 (by decide) ?_
      refine pw_icmp_ge r_12_knownTo_12 (fun h12 => ?_) (fun h12 => ?_)
      · skip
        refine pw_iload r_12_knownTo_69 rfl ?_
        refine pw_iret r_12_knownTo_71 rfl (Nat.le_refl _) ⟨rfl, ?_⟩
        rw [show (gF G 12 0 27) = i by omega] at hP
        exact pe hP hv
      · skip
        refine pw_aload r_12_knownTo_15 rfl ?_
        refine pw_getR r_12_knownTo_16 fs_12_23 (by decide) ?_
        refine pw_iload r_12_knownTo_19 rfl ?_
        refine pw_iald r_12_knownTo_21 sh219 (by omega) (by omega) ?_
        refine pw_iload r_12_knownTo_22 rfl ?_
        refine pw_icmp_ne r_12_knownTo_23 (fun h23 => ?_) (fun h23 => ?_)
        · skip
          refine pw_iload r_12_knownTo_59 rfl ?_
          refine pw_istore (ls' := [some (vR 12 (0)), some (vI (z)), some (vI (p)), some (vI (s)), some (vI (k)), some (vI (v)), some (vI (i))]) r_12_knownTo_61 rfl rfl ?_
          refine pw_iinc (b := 0) (ls' := [some (vR 12 (0)), some (vI (z)), some (vI (p)), some (vI (s)), some (vI (k)), some (vI (v)), some (vI ((i + 1)))]) r_12_knownTo_63 rfl rfl (by omega) rfl ?_
          refine pw_goto r_12_knownTo_66 ?_
          exact ih6 ((i + 1)) (v) (by omega) (by first | (rw [last_t hi.1 (show ((gA G 219 0 (i)) = p ∧ (gA G 220 0 (i)) = s ∧ ((((gA G 205 0 ((gA G 219 0 (i)))) = z ↔ (gA G 220 0 (i)) ≠ 2) ∧ (gA G 222 0 (i)) ≤ k) ∨ (¬ ((gA G 205 0 ((gA G 219 0 (i)))) = z ↔ (gA G 220 0 (i)) ≠ 2) ∧ cmF (gF G 12 0 29) (gA G 223 0) (gA G 222 0 (i)) 100000 ≤ k))) by omega)]; done) | (rw [last_f hi.1 (show ¬ ((gA G 219 0 (i)) = p ∧ (gA G 220 0 (i)) = s ∧ ((((gA G 205 0 ((gA G 219 0 (i)))) = z ↔ (gA G 220 0 (i)) ≠ 2) ∧ (gA G 222 0 (i)) ≤ k) ∨ (¬ ((gA G 205 0 ((gA G 219 0 (i)))) = z ↔ (gA G 220 0 (i)) ≠ 2) ∧ cmF (gF G 12 0 29) (gA G 223 0) (gA G 222 0 (i)) 100000 ≤ k))) by omega)]; exact hv)) (by omega)
        · skip
          refine pw_aload r_12_knownTo_26 rfl ?_
          refine pw_getR r_12_knownTo_27 fs_12_24 (by decide) ?_
          refine pw_iload r_12_knownTo_30 rfl ?_
          refine pw_iald r_12_knownTo_32 sh220 (by omega) (by omega) ?_
          refine pw_iload r_12_knownTo_33 rfl ?_
          refine pw_icmp_ne r_12_knownTo_34 (fun h34 => ?_) (fun h34 => ?_)
          · skip
            refine pw_iload r_12_knownTo_59 rfl ?_
            refine pw_istore (ls' := [some (vR 12 (0)), some (vI (z)), some (vI (p)), some (vI (s)), some (vI (k)), some (vI (v)), some (vI (i))]) r_12_knownTo_61 rfl rfl ?_
            refine pw_iinc (b := 0) (ls' := [some (vR 12 (0)), some (vI (z)), some (vI (p)), some (vI (s)), some (vI (k)), some (vI (v)), some (vI ((i + 1)))]) r_12_knownTo_63 rfl rfl (by omega) rfl ?_
            refine pw_goto r_12_knownTo_66 ?_
            exact ih6 ((i + 1)) (v) (by omega) (by first | (rw [last_t hi.1 (show ((gA G 219 0 (i)) = p ∧ (gA G 220 0 (i)) = s ∧ ((((gA G 205 0 ((gA G 219 0 (i)))) = z ↔ (gA G 220 0 (i)) ≠ 2) ∧ (gA G 222 0 (i)) ≤ k) ∨ (¬ ((gA G 205 0 ((gA G 219 0 (i)))) = z ↔ (gA G 220 0 (i)) ≠ 2) ∧ cmF (gF G 12 0 29) (gA G 223 0) (gA G 222 0 (i)) 100000 ≤ k))) by omega)]; done) | (rw [last_f hi.1 (show ¬ ((gA G 219 0 (i)) = p ∧ (gA G 220 0 (i)) = s ∧ ((((gA G 205 0 ((gA G 219 0 (i)))) = z ↔ (gA G 220 0 (i)) ≠ 2) ∧ (gA G 222 0 (i)) ≤ k) ∨ (¬ ((gA G 205 0 ((gA G 219 0 (i)))) = z ↔ (gA G 220 0 (i)) ≠ 2) ∧ cmF (gF G 12 0 29) (gA G 223 0) (gA G 222 0 (i)) 100000 ≤ k))) by omega)]; exact hv)) (by omega)
          · skip
            have hofi := hofs i (by omega) (by omega)
            refine pw_aload r_12_knownTo_37 rfl ?_
            refine pw_iload r_12_knownTo_38 rfl ?_
            refine pw_iload r_12_knownTo_40 rfl ?_
            refine pw_callV (av := [vI (i), vI (z)]) (st := []) (ls0 := [some (vR 12 (0)), some (vI (i)), some (vI (z)), none, none, none]) r_12_knownTo_41 rfl rfl rfl (Nat.le_refl _) ?_
            refine sp_X12_knownFrom (by first | assumption | exact hlt | omega) (by omega) (hofi) (hsent) ?_ ?_
            · skip
              intros
              refine pw_iload r_12_knownTo_44 rfl ?_
              refine pw_icmp_gt r_12_knownTo_46 (fun h46 => ?_) (fun h46 => ?_)
              · skip
                refine pw_iload r_12_knownTo_59 rfl ?_
                refine pw_istore (ls' := [some (vR 12 (0)), some (vI (z)), some (vI (p)), some (vI (s)), some (vI (k)), some (vI (v)), some (vI (i))]) r_12_knownTo_61 rfl rfl ?_
                refine pw_iinc (b := 0) (ls' := [some (vR 12 (0)), some (vI (z)), some (vI (p)), some (vI (s)), some (vI (k)), some (vI (v)), some (vI ((i + 1)))]) r_12_knownTo_63 rfl rfl (by omega) rfl ?_
                refine pw_goto r_12_knownTo_66 ?_
                exact ih6 ((i + 1)) (v) (by omega) (by first | (rw [last_t hi.1 (show ((gA G 219 0 (i)) = p ∧ (gA G 220 0 (i)) = s ∧ ((((gA G 205 0 ((gA G 219 0 (i)))) = z ↔ (gA G 220 0 (i)) ≠ 2) ∧ (gA G 222 0 (i)) ≤ k) ∨ (¬ ((gA G 205 0 ((gA G 219 0 (i)))) = z ↔ (gA G 220 0 (i)) ≠ 2) ∧ cmF (gF G 12 0 29) (gA G 223 0) (gA G 222 0 (i)) 100000 ≤ k))) by omega)]; done) | (rw [last_f hi.1 (show ¬ ((gA G 219 0 (i)) = p ∧ (gA G 220 0 (i)) = s ∧ ((((gA G 205 0 ((gA G 219 0 (i)))) = z ↔ (gA G 220 0 (i)) ≠ 2) ∧ (gA G 222 0 (i)) ≤ k) ∨ (¬ ((gA G 205 0 ((gA G 219 0 (i)))) = z ↔ (gA G 220 0 (i)) ≠ 2) ∧ cmF (gF G 12 0 29) (gA G 223 0) (gA G 222 0 (i)) 100000 ≤ k))) by omega)]; exact hv)) (by omega)
              · skip
                refine pw_aload r_12_knownTo_49 rfl ?_
                refine pw_getR r_12_knownTo_50 fs_12_25 (by decide) ?_
                refine pw_iload r_12_knownTo_53 rfl ?_
                refine pw_iald r_12_knownTo_55 sh221 (by omega) (by omega) ?_
                refine pw_goto r_12_knownTo_56 ?_
                refine pw_istore (ls' := [some (vR 12 (0)), some (vI (z)), some (vI (p)), some (vI (s)), some (vI (k)), some (vI (gA G 221 (0) (i))), some (vI (i))]) r_12_knownTo_61 rfl rfl ?_
                refine pw_iinc (b := 0) (ls' := [some (vR 12 (0)), some (vI (z)), some (vI (p)), some (vI (s)), some (vI (k)), some (vI (gA G 221 (0) (i))), some (vI ((i + 1)))]) r_12_knownTo_63 rfl rfl (by omega) rfl ?_
                refine pw_goto r_12_knownTo_66 ?_
                exact ih6 ((i + 1)) (gA G 221 (0) (i)) (by omega) (by first | (rw [last_t hi.1 (show ((gA G 219 0 (i)) = p ∧ (gA G 220 0 (i)) = s ∧ ((((gA G 205 0 ((gA G 219 0 (i)))) = z ↔ (gA G 220 0 (i)) ≠ 2) ∧ (gA G 222 0 (i)) ≤ k) ∨ (¬ ((gA G 205 0 ((gA G 219 0 (i)))) = z ↔ (gA G 220 0 (i)) ≠ 2) ∧ cmF (gF G 12 0 29) (gA G 223 0) (gA G 222 0 (i)) 100000 ≤ k))) by omega)]; done) | (rw [last_f hi.1 (show ¬ ((gA G 219 0 (i)) = p ∧ (gA G 220 0 (i)) = s ∧ ((((gA G 205 0 ((gA G 219 0 (i)))) = z ↔ (gA G 220 0 (i)) ≠ 2) ∧ (gA G 222 0 (i)) ≤ k) ∨ (¬ ((gA G 205 0 ((gA G 219 0 (i)))) = z ↔ (gA G 220 0 (i)) ≠ 2) ∧ cmF (gF G 12 0 29) (gA G 223 0) (gA G 222 0 (i)) 100000 ≤ k))) by omega)]; exact hv)) (by omega)
            · skip
              intros
              refine pw_iload r_12_knownTo_44 rfl ?_
              refine pw_icmp_gt r_12_knownTo_46 (fun h46 => ?_) (fun h46 => ?_)
              · skip
                refine pw_iload r_12_knownTo_59 rfl ?_
                refine pw_istore (ls' := [some (vR 12 (0)), some (vI (z)), some (vI (p)), some (vI (s)), some (vI (k)), some (vI (v)), some (vI (i))]) r_12_knownTo_61 rfl rfl ?_
                refine pw_iinc (b := 0) (ls' := [some (vR 12 (0)), some (vI (z)), some (vI (p)), some (vI (s)), some (vI (k)), some (vI (v)), some (vI ((i + 1)))]) r_12_knownTo_63 rfl rfl (by omega) rfl ?_
                refine pw_goto r_12_knownTo_66 ?_
                exact ih6 ((i + 1)) (v) (by omega) (by first | (rw [last_t hi.1 (show ((gA G 219 0 (i)) = p ∧ (gA G 220 0 (i)) = s ∧ ((((gA G 205 0 ((gA G 219 0 (i)))) = z ↔ (gA G 220 0 (i)) ≠ 2) ∧ (gA G 222 0 (i)) ≤ k) ∨ (¬ ((gA G 205 0 ((gA G 219 0 (i)))) = z ↔ (gA G 220 0 (i)) ≠ 2) ∧ cmF (gF G 12 0 29) (gA G 223 0) (gA G 222 0 (i)) 100000 ≤ k))) by omega)]; done) | (rw [last_f hi.1 (show ¬ ((gA G 219 0 (i)) = p ∧ (gA G 220 0 (i)) = s ∧ ((((gA G 205 0 ((gA G 219 0 (i)))) = z ↔ (gA G 220 0 (i)) ≠ 2) ∧ (gA G 222 0 (i)) ≤ k) ∨ (¬ ((gA G 205 0 ((gA G 219 0 (i)))) = z ↔ (gA G 220 0 (i)) ≠ 2) ∧ cmF (gF G 12 0 29) (gA G 223 0) (gA G 222 0 (i)) 100000 ≤ k))) by omega)]; exact hv)) (by omega)
              · skip
                refine pw_aload r_12_knownTo_49 rfl ?_
                refine pw_getR r_12_knownTo_50 fs_12_25 (by decide) ?_
                refine pw_iload r_12_knownTo_53 rfl ?_
                refine pw_iald r_12_knownTo_55 sh221 (by omega) (by omega) ?_
                refine pw_goto r_12_knownTo_56 ?_
                refine pw_istore (ls' := [some (vR 12 (0)), some (vI (z)), some (vI (p)), some (vI (s)), some (vI (k)), some (vI (gA G 221 (0) (i))), some (vI (i))]) r_12_knownTo_61 rfl rfl ?_
                refine pw_iinc (b := 0) (ls' := [some (vR 12 (0)), some (vI (z)), some (vI (p)), some (vI (s)), some (vI (k)), some (vI (gA G 221 (0) (i))), some (vI ((i + 1)))]) r_12_knownTo_63 rfl rfl (by omega) rfl ?_
                refine pw_goto r_12_knownTo_66 ?_
                exact ih6 ((i + 1)) (gA G 221 (0) (i)) (by omega) (by first | (rw [last_t hi.1 (show ((gA G 219 0 (i)) = p ∧ (gA G 220 0 (i)) = s ∧ ((((gA G 205 0 ((gA G 219 0 (i)))) = z ↔ (gA G 220 0 (i)) ≠ 2) ∧ (gA G 222 0 (i)) ≤ k) ∨ (¬ ((gA G 205 0 ((gA G 219 0 (i)))) = z ↔ (gA G 220 0 (i)) ≠ 2) ∧ cmF (gF G 12 0 29) (gA G 223 0) (gA G 222 0 (i)) 100000 ≤ k))) by omega)]; done) | (rw [last_f hi.1 (show ¬ ((gA G 219 0 (i)) = p ∧ (gA G 220 0 (i)) = s ∧ ((((gA G 205 0 ((gA G 219 0 (i)))) = z ↔ (gA G 220 0 (i)) ≠ 2) ∧ (gA G 222 0 (i)) ≤ k) ∨ (¬ ((gA G 205 0 ((gA G 219 0 (i)))) = z ↔ (gA G 220 0 (i)) ≠ 2) ∧ cmF (gF G 12 0 29) (gA G 223 0) (gA G 222 0 (i)) 100000 ≤ k))) by omega)]; exact hv)) (by omega)
  exact L6 _ (0) (0) (by omega) (rfl) (Nat.lt_succ_self _)
set_option maxRecDepth 10000 in
theorem sp_X12_known {l : Launch} {w : Wo} {d : Nat} {G : PH} {P : Option PV → PH → Prop} {z p s k : Int} (hsz : 0 ≤ (gF G 12 0 17) ∧ (gF G 12 0 17) ≤ 150) (hf : 0 ≤ (gF G 12 0 27) ∧ (gF G 12 0 27) ≤ 300) (hlt : 0 ≤ (gF G 12 0 29) ∧ (gF G 12 0 29) ≤ 60) (hofs : ∀ i, 0 ≤ i → i < (gF G 12 0 27) → 0 ≤ (gA G 219 0 (i)) ∧ (gA G 219 0 (i)) < 150) (hsent : ∀ l, 0 ≤ l → l < (gF G 12 0 29) → 0 ≤ (gA G 223 0 (l)) ∧ (gA G 223 0 (l)) ≤ 600) (h1 : ¬ ((0 ≤ z ∧ z ≤ 1) ∧ (0 ≤ p ∧ p < (gF G 12 0 17)) ∧ (0 ≤ s ∧ s ≤ 2) ∧ 0 ≤ k ∧ k ≤ 600) → P (some (vI (-1))) G) (h2 : ((0 ≤ z ∧ z ≤ 1) ∧ (0 ≤ p ∧ p < (gF G 12 0 17)) ∧ (0 ≤ s ∧ s ≤ 2) ∧ 0 ≤ k ∧ k ≤ 600) → P (some (vI (lastOf (fun i => ((gA G 219 0 (i)) = p ∧ (gA G 220 0 (i)) = s ∧ ((((gA G 205 0 ((gA G 219 0 (i)))) = z ↔ (gA G 220 0 (i)) ≠ 2) ∧ (gA G 222 0 (i)) ≤ k) ∨ (¬ ((gA G 205 0 ((gA G 219 0 (i)))) = z ↔ (gA G 220 0 (i)) ≠ 2) ∧ cmF (gF G 12 0 29) (gA G 223 0) (gA G 222 0 (i)) 100000 ≤ k)))) (gA G 221 0) 0 (gF G 12 0 27)))) G) : PW l w M_X12_known (d + 2) 0 [some (vR 12 (0)), some (vI (z)), some (vI (p)), some (vI (s)), some (vI (k))] [] G P := by
  refine pw_iload r_12_known_0 rfl ?_
  refine pw_callS (av := [vI (z)]) (st := []) (ls0 := [some (vI (z))]) r_12_known_1 rfl rfl rfl (Nat.le_refl _) ?_
  refine sp_X12_isSide  ?_
  refine pw_if_eqB r_12_known_4 (fun h04 => ?_) (fun h04 => ?_)
  · skip
    refine pw_const r_12_known_44 ?_
    refine pw_iret r_12_known_45 rfl (Nat.le_refl _) ⟨rfl, ?_⟩
    first | exact h1 (by omega) | exact h2 (by omega)
  · skip
    refine pw_aload r_12_known_7 rfl ?_
    refine pw_iload r_12_known_8 rfl ?_
    refine pw_callV (av := [vI (p)]) (st := []) (ls0 := [some (vR 12 (0)), some (vI (p))]) r_12_known_9 rfl rfl rfl (Nat.le_refl _) ?_
    refine sp_X12_isPerson  ?_
    refine pw_if_eqB r_12_known_12 (fun h12 => ?_) (fun h12 => ?_)
    · skip
      refine pw_const r_12_known_44 ?_
      refine pw_iret r_12_known_45 rfl (Nat.le_refl _) ⟨rfl, ?_⟩
      first | exact h1 (by omega) | exact h2 (by omega)
    · skip
      refine pw_iload r_12_known_15 rfl ?_
      refine pw_const r_12_known_16 ?_
      refine pw_const r_12_known_17 ?_
      refine pw_callS (av := [vI (s), vI (0), vI (2)]) (st := []) (ls0 := [some (vI (s)), some (vI (0)), some (vI (2))]) r_12_known_18 rfl rfl rfl (Nat.le_refl _) ?_
      refine sp_X12_within  ?_
      refine pw_if_eqB r_12_known_21 (fun h21 => ?_) (fun h21 => ?_)
      · skip
        refine pw_const r_12_known_44 ?_
        refine pw_iret r_12_known_45 rfl (Nat.le_refl _) ⟨rfl, ?_⟩
        first | exact h1 (by omega) | exact h2 (by omega)
      · skip
        refine pw_iload r_12_known_24 rfl ?_
        refine pw_callS (av := [vI (k)]) (st := []) (ls0 := [some (vI (k))]) r_12_known_26 rfl rfl rfl (Nat.le_refl _) ?_
        refine sp_X12_isDay  ?_
        refine pw_if_eqB r_12_known_29 (fun h29 => ?_) (fun h29 => ?_)
        · skip
          refine pw_const r_12_known_44 ?_
          refine pw_iret r_12_known_45 rfl (Nat.le_refl _) ⟨rfl, ?_⟩
          first | exact h1 (by omega) | exact h2 (by omega)
        · skip
          refine pw_aload r_12_known_32 rfl ?_
          refine pw_iload r_12_known_33 rfl ?_
          refine pw_iload r_12_known_34 rfl ?_
          refine pw_iload r_12_known_35 rfl ?_
          refine pw_iload r_12_known_36 rfl ?_
          refine pw_callV (av := [vI (z), vI (p), vI (s), vI (k)]) (st := []) (ls0 := [some (vR 12 (0)), some (vI (z)), some (vI (p)), some (vI (s)), some (vI (k)), none, none]) r_12_known_38 rfl rfl rfl (Nat.le_refl _) ?_
          refine sp_X12_knownTo (by first | assumption | exact hf | omega) (by first | assumption | exact hlt | omega) (by first | assumption | exact hofs | omega) (by first | assumption | exact hsent | omega) ?_
          refine pw_goto r_12_known_41 ?_
          refine pw_iret r_12_known_45 rfl (Nat.le_refl _) ⟨rfl, ?_⟩
          first | exact h1 (by omega) | exact h2 (by omega)
set_option maxRecDepth 10000 in
theorem sp_X9_addPromise {l : Launch} {w : Wo} {d : Nat} {G : PH} {P : Option PV → PH → Prop} {z n t : Int} (hpr : 0 ≤ (gF G 9 0 2) ∧ (gF G 9 0 2) ≤ 40) (h1 : ¬ ((0 ≤ z ∧ z ≤ 1) ∧ (1 ≤ n ∧ n ≤ 99) ∧ (gF G 1 0 2) ≤ t ∧ t ≤ 600) → P (some (vI (-1))) G) (h2 : ((0 ≤ z ∧ z ≤ 1) ∧ (1 ≤ n ∧ n ≤ 99) ∧ (gF G 1 0 2) ≤ t ∧ t ≤ 600) → (40 ≤ (gF G 9 0 2)) → P (some (vI (-2))) G) (h3 : ((0 ≤ z ∧ z ≤ 1) ∧ (1 ≤ n ∧ n ≤ 99) ∧ (gF G 1 0 2) ≤ t ∧ t ≤ 600) → ((gF G 9 0 2) < 40) → P (some (vI (gF G 9 0 2))) (sF (sA (sA (sA (sA G 88 0 ((gF G 9 0 2)) (z)) 89 0 ((gF G 9 0 2)) (n)) 90 0 ((gF G 9 0 2)) ((gF G 1 0 2))) 91 0 ((gF G 9 0 2)) (t)) 9 0 2 ((gF G 9 0 2) + 1))) : PW l w M_X9_addPromise (d + 1) 0 [some (vR 9 (0)), some (vI (z)), some (vI (n)), some (vI (t))] [] G P := by
  refine pw_iload r_9_addPromise_0 rfl ?_
  refine pw_callS (av := [vI (z)]) (st := []) (ls0 := [some (vI (z))]) r_9_addPromise_1 rfl rfl rfl (Nat.le_refl _) ?_
  refine sp_X11_isSide  ?_
  refine pw_if_eqB r_9_addPromise_4 (fun h04 => ?_) (fun h04 => ?_)
  · skip
    refine pw_const r_9_addPromise_34 ?_
    refine pw_iret r_9_addPromise_35 rfl (Nat.le_refl _) ⟨rfl, ?_⟩
    first | exact h1 (by omega) | exact h2 (by omega) (by omega) | exact pe (h3 (by omega) (by omega)) (by omega)
  · skip
    refine pw_iload r_9_addPromise_7 rfl ?_
    refine pw_const r_9_addPromise_8 ?_
    refine pw_const r_9_addPromise_9 ?_
    refine pw_callS (av := [vI (n), vI (1), vI (99)]) (st := []) (ls0 := [some (vI (n)), some (vI (1)), some (vI (99))]) r_9_addPromise_11 rfl rfl rfl (Nat.le_refl _) ?_
    refine sp_X11_within  ?_
    refine pw_if_eqB r_9_addPromise_14 (fun h14 => ?_) (fun h14 => ?_)
    · skip
      refine pw_const r_9_addPromise_34 ?_
      refine pw_iret r_9_addPromise_35 rfl (Nat.le_refl _) ⟨rfl, ?_⟩
      first | exact h1 (by omega) | exact h2 (by omega) (by omega) | exact pe (h3 (by omega) (by omega)) (by omega)
    · skip
      refine pw_iload r_9_addPromise_17 rfl ?_
      refine pw_aload r_9_addPromise_18 rfl ?_
      refine pw_getR r_9_addPromise_19 fs_9_3 (by decide) ?_
      refine pw_getI r_9_addPromise_22 fs_1_2 (by decide) ?_
      refine pw_const r_9_addPromise_25 ?_
      refine pw_callS (av := [vI (t), vI (gF G 1 (0) 2), vI (600)]) (st := []) (ls0 := [some (vI (t)), some (vI (gF G 1 (0) 2)), some (vI (600))]) r_9_addPromise_28 rfl rfl rfl (Nat.le_refl _) ?_
      refine sp_X11_within  ?_
      refine pw_if_neB r_9_addPromise_31 (fun h31 => ?_) (fun h31 => ?_)
      · skip
        refine pw_aload r_9_addPromise_36 rfl ?_
        refine pw_getI r_9_addPromise_37 fs_9_2 (by decide) ?_
        refine pw_const r_9_addPromise_40 ?_
        refine pw_icmp_lt r_9_addPromise_42 (fun h42 => ?_) (fun h42 => ?_)
        · skip
          refine pw_aload r_9_addPromise_48 rfl ?_
          refine pw_getR r_9_addPromise_49 fs_9_10 (by decide) ?_
          refine pw_aload r_9_addPromise_52 rfl ?_
          refine pw_getI r_9_addPromise_53 fs_9_2 (by decide) ?_
          refine pw_iload r_9_addPromise_56 rfl ?_
          refine pw_iast r_9_addPromise_57 sh88 (by omega) (by omega) ?_
          refine pw_aload r_9_addPromise_58 rfl ?_
          refine pw_getR r_9_addPromise_59 fs_9_11 (by decide) ?_
          refine pw_aload r_9_addPromise_62 rfl ?_
          refine pw_getIv (v := gF G 9 (0) 2) r_9_addPromise_63 fs_9_2 (by decide) (by first | rfl | simp [gF_sF, gF_sA, gF_uA, gF_sD, gA_sF, gA_sA, gA_uA, gA_sD, gD_sF, gD_sA, gD_uA, gD_sD]) ?_
          refine pw_iload r_9_addPromise_66 rfl ?_
          refine pw_iast r_9_addPromise_67 sh89 (by omega) (by omega) ?_
          refine pw_aload r_9_addPromise_68 rfl ?_
          refine pw_getR r_9_addPromise_69 fs_9_12 (by decide) ?_
          refine pw_aload r_9_addPromise_72 rfl ?_
          refine pw_getIv (v := gF G 9 (0) 2) r_9_addPromise_73 fs_9_2 (by decide) (by first | rfl | simp [gF_sF, gF_sA, gF_uA, gF_sD, gA_sF, gA_sA, gA_uA, gA_sD, gD_sF, gD_sA, gD_uA, gD_sD]) ?_
          refine pw_aload r_9_addPromise_76 rfl ?_
          refine pw_getR r_9_addPromise_77 fs_9_3 (by decide) ?_
          refine pw_getIv (v := gF G 1 (0) 2) r_9_addPromise_80 fs_1_2 (by decide) (by first | rfl | simp [gF_sF, gF_sA, gF_uA, gF_sD, gA_sF, gA_sA, gA_uA, gA_sD, gD_sF, gD_sA, gD_uA, gD_sD]) ?_
          refine pw_iast r_9_addPromise_83 sh90 (by omega) (by omega) ?_
          refine pw_aload r_9_addPromise_84 rfl ?_
          refine pw_getR r_9_addPromise_85 fs_9_13 (by decide) ?_
          refine pw_aload r_9_addPromise_88 rfl ?_
          refine pw_getIv (v := gF G 9 (0) 2) r_9_addPromise_89 fs_9_2 (by decide) (by first | rfl | simp [gF_sF, gF_sA, gF_uA, gF_sD, gA_sF, gA_sA, gA_uA, gA_sD, gD_sF, gD_sA, gD_uA, gD_sD]) ?_
          refine pw_iload r_9_addPromise_92 rfl ?_
          refine pw_iast r_9_addPromise_93 sh91 (by omega) (by omega) ?_
          refine pw_aload r_9_addPromise_94 rfl ?_
          refine pw_dup r_9_addPromise_95 rfl ?_
          refine pw_getIv (v := gF G 9 (0) 2) r_9_addPromise_96 fs_9_2 (by decide) (by first | rfl | simp [gF_sF, gF_sA, gF_uA, gF_sD, gA_sF, gA_sA, gA_uA, gA_sD, gD_sF, gD_sA, gD_uA, gD_sD]) ?_
          refine pw_const r_9_addPromise_99 ?_
          refine pw_iadd r_9_addPromise_100 (by omega) ?_
          refine pw_putI r_9_addPromise_101 (by decide +kernel) fs_9_2 (by decide) ?_
          refine pw_aload r_9_addPromise_104 rfl ?_
          refine pw_getIv (v := ((gF G 9 (0) 2) + 1)) r_9_addPromise_105 fs_9_2 (by decide) (by first | rfl | simp [gF_sF, gF_sA, gF_uA, gF_sD, gA_sF, gA_sA, gA_uA, gA_sD, gD_sF, gD_sA, gD_uA, gD_sD]) ?_
          refine pw_const r_9_addPromise_108 ?_
          refine pw_isub r_9_addPromise_109 (by omega) ?_
          refine pw_iret r_9_addPromise_110 rfl (Nat.le_refl _) ⟨rfl, ?_⟩
          first | exact h1 (by omega) | exact h2 (by omega) (by omega) | exact pe (h3 (by omega) (by omega)) (by omega)
        · skip
          refine pw_const r_9_addPromise_45 ?_
          refine pw_iret r_9_addPromise_47 rfl (Nat.le_refl _) ⟨rfl, ?_⟩
          first | exact h1 (by omega) | exact h2 (by omega) (by omega) | exact pe (h3 (by omega) (by omega)) (by omega)
      · skip
        refine pw_const r_9_addPromise_34 ?_
        refine pw_iret r_9_addPromise_35 rfl (Nat.le_refl _) ⟨rfl, ?_⟩
        first | exact h1 (by omega) | exact h2 (by omega) (by omega) | exact pe (h3 (by omega) (by omega)) (by omega)
set_option maxRecDepth 10000 in
theorem sp_X12_promise {l : Launch} {w : Wo} {d : Nat} {G : PH} {P : Option PV → PH → Prop} {z n t : Int} (hpr : 0 ≤ (gF G 12 0 34) ∧ (gF G 12 0 34) ≤ 40) (h1 : ¬ ((0 ≤ z ∧ z ≤ 1) ∧ (1 ≤ n ∧ n ≤ 99) ∧ (gF G 12 0 0) ≤ t ∧ t ≤ 600) → P (some (vI (-1))) G) (h2 : ((0 ≤ z ∧ z ≤ 1) ∧ (1 ≤ n ∧ n ≤ 99) ∧ (gF G 12 0 0) ≤ t ∧ t ≤ 600) → ((gF G 12 0 34) = 40) → P (some (vI (-2))) G) (h3 : ((0 ≤ z ∧ z ≤ 1) ∧ (1 ≤ n ∧ n ≤ 99) ∧ (gF G 12 0 0) ≤ t ∧ t ≤ 600) → ((gF G 12 0 34) < 40) → P (some (vI (gF G 12 0 34))) (sF (sA (sA (sA (sA G 224 0 ((gF G 12 0 34)) (z)) 225 0 ((gF G 12 0 34)) (n)) 226 0 ((gF G 12 0 34)) ((gF G 12 0 0))) 227 0 ((gF G 12 0 34)) (t)) 12 0 34 ((gF G 12 0 34) + 1))) : PW l w M_X12_promise (d + 2) 0 [some (vR 12 (0)), some (vI (z)), some (vI (n)), some (vI (t))] [] G P := by
  refine pw_iload r_12_promise_0 rfl ?_
  refine pw_callS (av := [vI (z)]) (st := []) (ls0 := [some (vI (z))]) r_12_promise_1 rfl rfl rfl (Nat.le_refl _) ?_
  refine sp_X12_isSide  ?_
  refine pw_if_eqB r_12_promise_4 (fun h04 => ?_) (fun h04 => ?_)
  · skip
    refine pw_const r_12_promise_31 ?_
    refine pw_iret r_12_promise_32 rfl (Nat.le_refl _) ⟨rfl, ?_⟩
    first | exact h1 (by omega) | exact h2 (by omega) (by omega) | exact pe (h3 (by omega) (by omega)) (by omega)
  · skip
    refine pw_iload r_12_promise_7 rfl ?_
    refine pw_const r_12_promise_8 ?_
    refine pw_const r_12_promise_9 ?_
    refine pw_callS (av := [vI (n), vI (1), vI (99)]) (st := []) (ls0 := [some (vI (n)), some (vI (1)), some (vI (99))]) r_12_promise_11 rfl rfl rfl (Nat.le_refl _) ?_
    refine sp_X12_within  ?_
    refine pw_if_eqB r_12_promise_14 (fun h14 => ?_) (fun h14 => ?_)
    · skip
      refine pw_const r_12_promise_31 ?_
      refine pw_iret r_12_promise_32 rfl (Nat.le_refl _) ⟨rfl, ?_⟩
      first | exact h1 (by omega) | exact h2 (by omega) (by omega) | exact pe (h3 (by omega) (by omega)) (by omega)
    · skip
      refine pw_iload r_12_promise_17 rfl ?_
      refine pw_aload r_12_promise_18 rfl ?_
      refine pw_getI r_12_promise_19 fs_12_0 (by decide) ?_
      refine pw_const r_12_promise_22 ?_
      refine pw_callS (av := [vI (t), vI (gF G 12 (0) 0), vI (600)]) (st := []) (ls0 := [some (vI (t)), some (vI (gF G 12 (0) 0)), some (vI (600))]) r_12_promise_25 rfl rfl rfl (Nat.le_refl _) ?_
      refine sp_X12_within  ?_
      refine pw_if_neB r_12_promise_28 (fun h28 => ?_) (fun h28 => ?_)
      · skip
        refine pw_aload r_12_promise_33 rfl ?_
        refine pw_getI r_12_promise_34 fs_12_34 (by decide) ?_
        refine pw_const r_12_promise_37 ?_
        refine pw_icmp_ne r_12_promise_39 (fun h39 => ?_) (fun h39 => ?_)
        · skip
          refine pw_aload r_12_promise_45 rfl ?_
          refine pw_getR r_12_promise_46 fs_12_30 (by decide) ?_
          refine pw_aload r_12_promise_49 rfl ?_
          refine pw_getI r_12_promise_50 fs_12_34 (by decide) ?_
          refine pw_iload r_12_promise_53 rfl ?_
          refine pw_iast r_12_promise_54 sh224 (by omega) (by omega) ?_
          refine pw_aload r_12_promise_55 rfl ?_
          refine pw_getR r_12_promise_56 fs_12_31 (by decide) ?_
          refine pw_aload r_12_promise_59 rfl ?_
          refine pw_getIv (v := gF G 12 (0) 34) r_12_promise_60 fs_12_34 (by decide) (by first | rfl | simp [gF_sF, gF_sA, gF_uA, gF_sD, gA_sF, gA_sA, gA_uA, gA_sD, gD_sF, gD_sA, gD_uA, gD_sD]) ?_
          refine pw_iload r_12_promise_63 rfl ?_
          refine pw_iast r_12_promise_64 sh225 (by omega) (by omega) ?_
          refine pw_aload r_12_promise_65 rfl ?_
          refine pw_getR r_12_promise_66 fs_12_32 (by decide) ?_
          refine pw_aload r_12_promise_69 rfl ?_
          refine pw_getIv (v := gF G 12 (0) 34) r_12_promise_70 fs_12_34 (by decide) (by first | rfl | simp [gF_sF, gF_sA, gF_uA, gF_sD, gA_sF, gA_sA, gA_uA, gA_sD, gD_sF, gD_sA, gD_uA, gD_sD]) ?_
          refine pw_aload r_12_promise_73 rfl ?_
          refine pw_getIv (v := gF G 12 (0) 0) r_12_promise_74 fs_12_0 (by decide) (by first | rfl | simp [gF_sF, gF_sA, gF_uA, gF_sD, gA_sF, gA_sA, gA_uA, gA_sD, gD_sF, gD_sA, gD_uA, gD_sD]) ?_
          refine pw_iast r_12_promise_77 sh226 (by omega) (by omega) ?_
          refine pw_aload r_12_promise_78 rfl ?_
          refine pw_getR r_12_promise_79 fs_12_33 (by decide) ?_
          refine pw_aload r_12_promise_82 rfl ?_
          refine pw_getIv (v := gF G 12 (0) 34) r_12_promise_83 fs_12_34 (by decide) (by first | rfl | simp [gF_sF, gF_sA, gF_uA, gF_sD, gA_sF, gA_sA, gA_uA, gA_sD, gD_sF, gD_sA, gD_uA, gD_sD]) ?_
          refine pw_iload r_12_promise_86 rfl ?_
          refine pw_iast r_12_promise_87 sh227 (by omega) (by omega) ?_
          refine pw_aload r_12_promise_88 rfl ?_
          refine pw_dup r_12_promise_89 rfl ?_
          refine pw_getIv (v := gF G 12 (0) 34) r_12_promise_90 fs_12_34 (by decide) (by first | rfl | simp [gF_sF, gF_sA, gF_uA, gF_sD, gA_sF, gA_sA, gA_uA, gA_sD, gD_sF, gD_sA, gD_uA, gD_sD]) ?_
          refine pw_const r_12_promise_93 ?_
          refine pw_iadd r_12_promise_94 (by omega) ?_
          refine pw_putI r_12_promise_95 (by decide +kernel) fs_12_34 (by decide) ?_
          refine pw_aload r_12_promise_98 rfl ?_
          refine pw_getIv (v := ((gF G 12 (0) 34) + 1)) r_12_promise_99 fs_12_34 (by decide) (by first | rfl | simp [gF_sF, gF_sA, gF_uA, gF_sD, gA_sF, gA_sA, gA_uA, gA_sD, gD_sF, gD_sA, gD_uA, gD_sD]) ?_
          refine pw_const r_12_promise_102 ?_
          refine pw_isub r_12_promise_103 (by omega) ?_
          refine pw_iret r_12_promise_104 rfl (Nat.le_refl _) ⟨rfl, ?_⟩
          first | exact h1 (by omega) | exact h2 (by omega) (by omega) | exact pe (h3 (by omega) (by omega)) (by omega)
        · skip
          refine pw_const r_12_promise_42 ?_
          refine pw_iret r_12_promise_44 rfl (Nat.le_refl _) ⟨rfl, ?_⟩
          first | exact h1 (by omega) | exact h2 (by omega) (by omega) | exact pe (h3 (by omega) (by omega)) (by omega)
      · skip
        refine pw_const r_12_promise_31 ?_
        refine pw_iret r_12_promise_32 rfl (Nat.le_refl _) ⟨rfl, ?_⟩
        first | exact h1 (by omega) | exact h2 (by omega) (by omega) | exact pe (h3 (by omega) (by omega)) (by omega)
set_option maxRecDepth 10000 in
theorem sp_X9_isBroken {l : Launch} {w : Wo} {d : Nat} {G : PH} {P : Option PV → PH → Prop} {j d0 : Int} (hp : ∀ i, 0 ≤ i → i < (gF G 1 0 1) → gD G 30 0 i = some (3, i)) (hsz : 0 ≤ (gF G 1 0 1) ∧ (gF G 1 0 1) ≤ 150) (hj : 0 ≤ j ∧ j < 40) (hP : P (some (vI (b2i ((gA G 91 0 (j)) < d0 ∧ cnt (fun i1 => ((gF G 3 (i1) 2) = (gA G 88 0 (j)) ∧ (gF G 3 (i1) 8) = 5) ∧ (gA G 90 0 (j)) ≤ (gF G 3 (i1) 9) ∧ (gF G 3 (i1) 9) ≤ (gA G 91 0 (j))) (gF G 1 0 1) < (gA G 89 0 (j)))))) G) : PW l w M_X9_isBroken (d + 1) 0 [some (vR 9 (0)), some (vI (j)), some (vI (d0))] [] G P := by
  refine pw_iload r_9_isBroken_0 rfl ?_
  refine pw_aload r_9_isBroken_1 rfl ?_
  refine pw_getR r_9_isBroken_2 fs_9_13 (by decide) ?_
  refine pw_iload r_9_isBroken_5 rfl ?_
  refine pw_iald r_9_isBroken_6 sh91 (by omega) (by omega) ?_
  refine pw_icmp_le r_9_isBroken_7 (fun h07 => ?_) (fun h07 => ?_)
  · skip
    refine pw_const r_9_isBroken_48 ?_
    refine pw_zret r_9_isBroken_49 rfl (Or.inl rfl) (Nat.le_refl _) ⟨rfl, ?_⟩
    exact pe hP (by first | rfl | omega | exact (b2i_t (by omega)).symm | exact (b2i_f (by omega)).symm)
  · skip
    refine pw_aload r_9_isBroken_10 rfl ?_
    refine pw_getR r_9_isBroken_11 fs_9_3 (by decide) ?_
    refine pw_aload r_9_isBroken_14 rfl ?_
    refine pw_getR r_9_isBroken_15 fs_9_10 (by decide) ?_
    refine pw_iload r_9_isBroken_18 rfl ?_
    refine pw_iald r_9_isBroken_19 sh88 (by omega) (by omega) ?_
    refine pw_aload r_9_isBroken_20 rfl ?_
    refine pw_getR r_9_isBroken_21 fs_9_12 (by decide) ?_
    refine pw_iload r_9_isBroken_24 rfl ?_
    refine pw_iald r_9_isBroken_25 sh90 (by omega) (by omega) ?_
    refine pw_aload r_9_isBroken_26 rfl ?_
    refine pw_getR r_9_isBroken_27 fs_9_13 (by decide) ?_
    refine pw_iload r_9_isBroken_30 rfl ?_
    refine pw_iald r_9_isBroken_31 sh91 (by omega) (by omega) ?_
    refine pw_callV (av := [vI (gA G 88 (0) (j)), vI (gA G 90 (0) (j)), vI (gA G 91 (0) (j))]) (st := []) (ls0 := [some (vR 1 (0)), some (vI (gA G 88 (0) (j))), some (vI (gA G 90 (0) (j))), some (vI (gA G 91 (0) (j))), none, none, none, none]) r_9_isBroken_32 rfl rfl rfl (Nat.le_refl _) ?_
    refine sp_X1_countHandedOver (by first | assumption | exact hp | omega) (by first | assumption | exact hsz | omega) ?_
    refine pw_aload r_9_isBroken_35 rfl ?_
    refine pw_getR r_9_isBroken_36 fs_9_11 (by decide) ?_
    refine pw_iload r_9_isBroken_39 rfl ?_
    refine pw_iald r_9_isBroken_40 sh89 (by omega) (by omega) ?_
    refine pw_icmp_ge r_9_isBroken_41 (fun h41 => ?_) (fun h41 => ?_)
    · skip
      refine pw_const r_9_isBroken_48 ?_
      refine pw_zret r_9_isBroken_49 rfl (Or.inl rfl) (Nat.le_refl _) ⟨rfl, ?_⟩
      exact pe hP (by first | rfl | omega | exact (b2i_t (by omega)).symm | exact (b2i_f (by omega)).symm)
    · skip
      refine pw_const r_9_isBroken_44 ?_
      refine pw_goto r_9_isBroken_45 ?_
      refine pw_zret r_9_isBroken_49 rfl (Or.inr rfl) (Nat.le_refl _) ⟨rfl, ?_⟩
      exact pe hP (by first | rfl | omega | exact (b2i_t (by omega)).symm | exact (b2i_f (by omega)).symm)
set_option maxRecDepth 10000 in
theorem sp_X12_isBroken {l : Launch} {w : Wo} {d : Nat} {G : PH} {P : Option PV → PH → Prop} {j d0 : Int} (hsz : 0 ≤ (gF G 12 0 17) ∧ (gF G 12 0 17) ≤ 150) (hj : 0 ≤ j ∧ j < 40) (hP : P (some (vI (b2i ((gA G 227 0 (j)) < d0 ∧ cnt (fun i1 => ((gA G 206 0 (i1)) = 5 ∧ (gA G 205 0 (i1)) = (gA G 224 0 (j))) ∧ (gA G 226 0 (j)) ≤ (gA G 213 0 (i1)) ∧ (gA G 213 0 (i1)) ≤ (gA G 227 0 (j))) (gF G 12 0 17) < (gA G 225 0 (j)))))) G) : PW l w M_X12_isBroken (d + 2) 0 [some (vR 12 (0)), some (vI (j)), some (vI (d0))] [] G P := by
  refine pw_iload r_12_isBroken_0 rfl ?_
  refine pw_aload r_12_isBroken_1 rfl ?_
  refine pw_getR r_12_isBroken_2 fs_12_33 (by decide) ?_
  refine pw_iload r_12_isBroken_5 rfl ?_
  refine pw_iald r_12_isBroken_6 sh227 (by omega) (by omega) ?_
  refine pw_icmp_le r_12_isBroken_7 (fun h07 => ?_) (fun h07 => ?_)
  · skip
    refine pw_const r_12_isBroken_28 ?_
    refine pw_zret r_12_isBroken_29 rfl (Or.inl rfl) (Nat.le_refl _) ⟨rfl, ?_⟩
    exact pe hP (by first | rfl | omega | exact (b2i_t (by omega)).symm | exact (b2i_f (by omega)).symm)
  · skip
    refine pw_aload r_12_isBroken_10 rfl ?_
    refine pw_iload r_12_isBroken_11 rfl ?_
    refine pw_callV (av := [vI (j)]) (st := []) (ls0 := [some (vR 12 (0)), some (vI (j)), none, none, none]) r_12_isBroken_12 rfl rfl rfl (Nat.le_refl _) ?_
    refine sp_X12_doneOf (by first | assumption | exact hsz | omega) (by first | assumption | exact hj | omega) ?_
    refine pw_aload r_12_isBroken_15 rfl ?_
    refine pw_getR r_12_isBroken_16 fs_12_31 (by decide) ?_
    refine pw_iload r_12_isBroken_19 rfl ?_
    refine pw_iald r_12_isBroken_20 sh225 (by omega) (by omega) ?_
    refine pw_icmp_ge r_12_isBroken_21 (fun h21 => ?_) (fun h21 => ?_)
    · skip
      refine pw_const r_12_isBroken_28 ?_
      refine pw_zret r_12_isBroken_29 rfl (Or.inl rfl) (Nat.le_refl _) ⟨rfl, ?_⟩
      exact pe hP (by first | rfl | omega | exact (b2i_t (by omega)).symm | exact (b2i_f (by omega)).symm)
    · skip
      refine pw_const r_12_isBroken_24 ?_
      refine pw_goto r_12_isBroken_25 ?_
      refine pw_zret r_12_isBroken_29 rfl (Or.inr rfl) (Nat.le_refl _) ⟨rfl, ?_⟩
      exact pe hP (by first | rfl | omega | exact (b2i_t (by omega)).symm | exact (b2i_f (by omega)).symm)
set_option maxRecDepth 10000 in
theorem sp_X9_countBroken {l : Launch} {w : Wo} {d : Nat} {G : PH} {P : Option PV → PH → Prop} {z d0 : Int} (hp : ∀ i, 0 ≤ i → i < (gF G 1 0 1) → gD G 30 0 i = some (3, i)) (hsz : 0 ≤ (gF G 1 0 1) ∧ (gF G 1 0 1) ≤ 150) (hpr : 0 ≤ (gF G 9 0 2) ∧ (gF G 9 0 2) ≤ 40) (hP : P (some (vI (cnt (fun i => (gA G 88 0 (i)) = z ∧ ((gA G 91 0 (i)) < d0 ∧ cnt (fun i1 => ((gF G 3 (i1) 2) = (gA G 88 0 (i)) ∧ (gF G 3 (i1) 8) = 5) ∧ (gA G 90 0 (i)) ≤ (gF G 3 (i1) 9) ∧ (gF G 3 (i1) 9) ≤ (gA G 91 0 (i))) (gF G 1 0 1) < (gA G 89 0 (i)))) (gF G 9 0 2)))) G) : PW l w M_X9_countBroken (d + 2) 0 [some (vR 9 (0)), some (vI (z)), some (vI (d0)), none, none] [] G P := by
  refine pw_const r_9_countBroken_0 ?_
  refine pw_istore (ls' := [some (vR 9 (0)), some (vI (z)), some (vI (d0)), some (vI (0)), none]) r_9_countBroken_1 rfl rfl ?_
  refine pw_const r_9_countBroken_2 ?_
  refine pw_istore (ls' := [some (vR 9 (0)), some (vI (z)), some (vI (d0)), some (vI (0)), some (vI (0))]) r_9_countBroken_3 rfl rfl ?_
  have L5 : ∀ (nF : Nat) (i n : Int), (hi : 0 ≤ i ∧ i ≤ (gF G 9 0 2)) → (hn : n = cnt (fun i => (gA G 88 0 (i)) = z ∧ ((gA G 91 0 (i)) < d0 ∧ cnt (fun i1 => ((gF G 3 (i1) 2) = (gA G 88 0 (i)) ∧ (gF G 3 (i1) 8) = 5) ∧ (gA G 90 0 (i)) ≤ (gF G 3 (i1) 9) ∧ (gF G 3 (i1) 9) ≤ (gA G 91 0 (i))) (gF G 1 0 1) < (gA G 89 0 (i)))) i) → ((gF G 9 0 2) - i).toNat < nF → PW l w M_X9_countBroken (d + 2) 5 [some (vR 9 (0)), some (vI (z)), some (vI (d0)), some (vI (n)), some (vI (i))] [] G P := by
    intro nF
    induction nF with
    | zero => intro _ _ _ _ hM; exact absurd hM (Nat.not_lt_zero _)
    | succ nF ih5 =>
      intro i n hi hn hM5
      have hcl := cnt_le (fun i => (gA G 88 0 (i)) = z ∧ ((gA G 91 0 (i)) < d0 ∧ cnt (fun i1 => ((gF G 3 (i1) 2) = (gA G 88 0 (i)) ∧ (gF G 3 (i1) 8) = 5) ∧ (gA G 90 0 (i)) ≤ (gF G 3 (i1) 9) ∧ (gF G 3 (i1) 9) ≤ (gA G 91 0 (i))) (gF G 1 0 1) < (gA G 89 0 (i)))) hi.1
      refine pw_iload r_9_countBroken_5 rfl ?_
      refine pw_aload r_9_countBroken_7 rfl ?_
      refine pw_getI r_9_countBroken_8 fs_9_2 (by decide) ?_
      refine pw_icmp_ge r_9_countBroken_11 (fun h11 => ?_) (fun h11 => ?_)
      · skip
        refine pw_iload r_9_countBroken_44 rfl ?_
        refine pw_iret r_9_countBroken_45 rfl (Nat.le_refl _) ⟨rfl, ?_⟩
        rw [show (gF G 9 0 2) = i by omega] at hP
        exact pe hP (by omega)
      · skip
        refine pw_aload r_9_countBroken_14 rfl ?_
        refine pw_getR r_9_countBroken_15 fs_9_10 (by decide) ?_
        refine pw_iload r_9_countBroken_18 rfl ?_
        refine pw_iald r_9_countBroken_20 sh88 (by omega) (by omega) ?_
        refine pw_iload r_9_countBroken_21 rfl ?_
        refine pw_icmp_ne r_9_countBroken_22 (fun h22 => ?_) (fun h22 => ?_)
        · skip
          refine pw_iinc (b := 0) (ls' := [some (vR 9 (0)), some (vI (z)), some (vI (d0)), some (vI (n)), some (vI ((i + 1)))]) r_9_countBroken_38 rfl rfl (by omega) rfl ?_
          refine pw_goto r_9_countBroken_41 ?_
          exact ih5 ((i + 1)) (n) (by omega) (by first | (rw [cnt_t hi.1 (show (gA G 88 0 (i)) = z ∧ ((gA G 91 0 (i)) < d0 ∧ cnt (fun i1 => ((gF G 3 (i1) 2) = (gA G 88 0 (i)) ∧ (gF G 3 (i1) 8) = 5) ∧ (gA G 90 0 (i)) ≤ (gF G 3 (i1) 9) ∧ (gF G 3 (i1) 9) ≤ (gA G 91 0 (i))) (gF G 1 0 1) < (gA G 89 0 (i))) by omega)]; omega) | (rw [cnt_f hi.1 (show ¬ ((gA G 88 0 (i)) = z ∧ ((gA G 91 0 (i)) < d0 ∧ cnt (fun i1 => ((gF G 3 (i1) 2) = (gA G 88 0 (i)) ∧ (gF G 3 (i1) 8) = 5) ∧ (gA G 90 0 (i)) ≤ (gF G 3 (i1) 9) ∧ (gF G 3 (i1) 9) ≤ (gA G 91 0 (i))) (gF G 1 0 1) < (gA G 89 0 (i)))) by omega)]; omega)) (by omega)
        · skip
          refine pw_aload r_9_countBroken_25 rfl ?_
          refine pw_iload r_9_countBroken_26 rfl ?_
          refine pw_iload r_9_countBroken_28 rfl ?_
          refine pw_callV (av := [vI (i), vI (d0)]) (st := []) (ls0 := [some (vR 9 (0)), some (vI (i)), some (vI (d0))]) r_9_countBroken_29 rfl rfl rfl (Nat.le_refl _) ?_
          refine sp_X9_isBroken (by first | assumption | exact hp | omega) (by first | assumption | exact hsz | omega) (by first | assumption | exact hj | omega) ?_
          refine pw_if_eqB r_9_countBroken_32 (fun h32 => ?_) (fun h32 => ?_)
          · skip
            refine pw_iinc (b := 0) (ls' := [some (vR 9 (0)), some (vI (z)), some (vI (d0)), some (vI (n)), some (vI ((i + 1)))]) r_9_countBroken_38 rfl rfl (by omega) rfl ?_
            refine pw_goto r_9_countBroken_41 ?_
            exact ih5 ((i + 1)) (n) (by omega) (by first | (rw [cnt_t hi.1 (show (gA G 88 0 (i)) = z ∧ ((gA G 91 0 (i)) < d0 ∧ cnt (fun i1 => ((gF G 3 (i1) 2) = (gA G 88 0 (i)) ∧ (gF G 3 (i1) 8) = 5) ∧ (gA G 90 0 (i)) ≤ (gF G 3 (i1) 9) ∧ (gF G 3 (i1) 9) ≤ (gA G 91 0 (i))) (gF G 1 0 1) < (gA G 89 0 (i))) by omega)]; omega) | (rw [cnt_f hi.1 (show ¬ ((gA G 88 0 (i)) = z ∧ ((gA G 91 0 (i)) < d0 ∧ cnt (fun i1 => ((gF G 3 (i1) 2) = (gA G 88 0 (i)) ∧ (gF G 3 (i1) 8) = 5) ∧ (gA G 90 0 (i)) ≤ (gF G 3 (i1) 9) ∧ (gF G 3 (i1) 9) ≤ (gA G 91 0 (i))) (gF G 1 0 1) < (gA G 89 0 (i)))) by omega)]; omega)) (by omega)
          · skip
            refine pw_iinc (b := 0) (ls' := [some (vR 9 (0)), some (vI (z)), some (vI (d0)), some (vI ((n + 1))), some (vI (i))]) r_9_countBroken_35 rfl rfl (by omega) rfl ?_
            refine pw_iinc (b := 0) (ls' := [some (vR 9 (0)), some (vI (z)), some (vI (d0)), some (vI ((n + 1))), some (vI ((i + 1)))]) r_9_countBroken_38 rfl rfl (by omega) rfl ?_
            refine pw_goto r_9_countBroken_41 ?_
            exact ih5 ((i + 1)) ((n + 1)) (by omega) (by first | (rw [cnt_t hi.1 (show (gA G 88 0 (i)) = z ∧ ((gA G 91 0 (i)) < d0 ∧ cnt (fun i1 => ((gF G 3 (i1) 2) = (gA G 88 0 (i)) ∧ (gF G 3 (i1) 8) = 5) ∧ (gA G 90 0 (i)) ≤ (gF G 3 (i1) 9) ∧ (gF G 3 (i1) 9) ≤ (gA G 91 0 (i))) (gF G 1 0 1) < (gA G 89 0 (i))) by omega)]; omega) | (rw [cnt_f hi.1 (show ¬ ((gA G 88 0 (i)) = z ∧ ((gA G 91 0 (i)) < d0 ∧ cnt (fun i1 => ((gF G 3 (i1) 2) = (gA G 88 0 (i)) ∧ (gF G 3 (i1) 8) = 5) ∧ (gA G 90 0 (i)) ≤ (gF G 3 (i1) 9) ∧ (gF G 3 (i1) 9) ≤ (gA G 91 0 (i))) (gF G 1 0 1) < (gA G 89 0 (i)))) by omega)]; omega)) (by omega)
  exact L5 _ (0) (0) (by omega) (rfl) (Nat.lt_succ_self _)
set_option maxRecDepth 10000 in
theorem sp_X12_brokenOf {l : Launch} {w : Wo} {d : Nat} {G : PH} {P : Option PV → PH → Prop} {z d0 : Int} (hsz : 0 ≤ (gF G 12 0 17) ∧ (gF G 12 0 17) ≤ 150) (hpr : 0 ≤ (gF G 12 0 34) ∧ (gF G 12 0 34) ≤ 40) (hP : P (some (vI (cnt (fun i => (gA G 224 0 (i)) = z ∧ ((gA G 227 0 (i)) < d0 ∧ cnt (fun i1 => ((gA G 206 0 (i1)) = 5 ∧ (gA G 205 0 (i1)) = (gA G 224 0 (i))) ∧ (gA G 226 0 (i)) ≤ (gA G 213 0 (i1)) ∧ (gA G 213 0 (i1)) ≤ (gA G 227 0 (i))) (gF G 12 0 17) < (gA G 225 0 (i)))) (gF G 12 0 34)))) G) : PW l w M_X12_brokenOf (d + 3) 0 [some (vR 12 (0)), some (vI (z)), some (vI (d0)), none, none] [] G P := by
  refine pw_const r_12_brokenOf_0 ?_
  refine pw_istore (ls' := [some (vR 12 (0)), some (vI (z)), some (vI (d0)), some (vI (0)), none]) r_12_brokenOf_1 rfl rfl ?_
  refine pw_const r_12_brokenOf_2 ?_
  refine pw_istore (ls' := [some (vR 12 (0)), some (vI (z)), some (vI (d0)), some (vI (0)), some (vI (0))]) r_12_brokenOf_3 rfl rfl ?_
  have L5 : ∀ (nF : Nat) (i n : Int), (hi : 0 ≤ i ∧ i ≤ (gF G 12 0 34)) → (hn : n = cnt (fun i => (gA G 224 0 (i)) = z ∧ ((gA G 227 0 (i)) < d0 ∧ cnt (fun i1 => ((gA G 206 0 (i1)) = 5 ∧ (gA G 205 0 (i1)) = (gA G 224 0 (i))) ∧ (gA G 226 0 (i)) ≤ (gA G 213 0 (i1)) ∧ (gA G 213 0 (i1)) ≤ (gA G 227 0 (i))) (gF G 12 0 17) < (gA G 225 0 (i)))) i) → ((gF G 12 0 34) - i).toNat < nF → PW l w M_X12_brokenOf (d + 3) 5 [some (vR 12 (0)), some (vI (z)), some (vI (d0)), some (vI (n)), some (vI (i))] [] G P := by
    intro nF
    induction nF with
    | zero => intro _ _ _ _ hM; exact absurd hM (Nat.not_lt_zero _)
    | succ nF ih5 =>
      intro i n hi hn hM5
      have hcl := cnt_le (fun i => (gA G 224 0 (i)) = z ∧ ((gA G 227 0 (i)) < d0 ∧ cnt (fun i1 => ((gA G 206 0 (i1)) = 5 ∧ (gA G 205 0 (i1)) = (gA G 224 0 (i))) ∧ (gA G 226 0 (i)) ≤ (gA G 213 0 (i1)) ∧ (gA G 213 0 (i1)) ≤ (gA G 227 0 (i))) (gF G 12 0 17) < (gA G 225 0 (i)))) hi.1
      refine pw_iload r_12_brokenOf_5 rfl ?_
      refine pw_aload r_12_brokenOf_7 rfl ?_
      refine pw_getI r_12_brokenOf_8 fs_12_34 (by decide) ?_
      refine pw_icmp_ge r_12_brokenOf_11 (fun h11 => ?_) (fun h11 => ?_)
      · skip
        refine pw_iload r_12_brokenOf_49 rfl ?_
        refine pw_iret r_12_brokenOf_50 rfl (Nat.le_refl _) ⟨rfl, ?_⟩
        rw [show (gF G 12 0 34) = i by omega] at hP
        exact pe hP (by omega)
      · skip
        refine pw_iload r_12_brokenOf_14 rfl ?_
        refine pw_aload r_12_brokenOf_15 rfl ?_
        refine pw_getR r_12_brokenOf_16 fs_12_30 (by decide) ?_
        refine pw_iload r_12_brokenOf_19 rfl ?_
        refine pw_iald r_12_brokenOf_21 sh224 (by omega) (by omega) ?_
        refine pw_iload r_12_brokenOf_22 rfl ?_
        refine pw_icmp_ne r_12_brokenOf_23 (fun h23 => ?_) (fun h23 => ?_)
        · skip
          refine pw_const r_12_brokenOf_40 ?_
          refine pw_iadd r_12_brokenOf_41 (by omega) ?_
          refine pw_istore (ls' := [some (vR 12 (0)), some (vI (z)), some (vI (d0)), some (vI ((n + 0))), some (vI (i))]) r_12_brokenOf_42 rfl rfl ?_
          refine pw_iinc (b := 0) (ls' := [some (vR 12 (0)), some (vI (z)), some (vI (d0)), some (vI ((n + 0))), some (vI ((i + 1)))]) r_12_brokenOf_43 rfl rfl (by omega) rfl ?_
          refine pw_goto r_12_brokenOf_46 ?_
          exact ih5 ((i + 1)) ((n + 0)) (by omega) (by first | (rw [cnt_t hi.1 (show (gA G 224 0 (i)) = z ∧ ((gA G 227 0 (i)) < d0 ∧ cnt (fun i1 => ((gA G 206 0 (i1)) = 5 ∧ (gA G 205 0 (i1)) = (gA G 224 0 (i))) ∧ (gA G 226 0 (i)) ≤ (gA G 213 0 (i1)) ∧ (gA G 213 0 (i1)) ≤ (gA G 227 0 (i))) (gF G 12 0 17) < (gA G 225 0 (i))) by omega)]; omega) | (rw [cnt_f hi.1 (show ¬ ((gA G 224 0 (i)) = z ∧ ((gA G 227 0 (i)) < d0 ∧ cnt (fun i1 => ((gA G 206 0 (i1)) = 5 ∧ (gA G 205 0 (i1)) = (gA G 224 0 (i))) ∧ (gA G 226 0 (i)) ≤ (gA G 213 0 (i1)) ∧ (gA G 213 0 (i1)) ≤ (gA G 227 0 (i))) (gF G 12 0 17) < (gA G 225 0 (i)))) by omega)]; omega)) (by omega)
        · skip
          refine pw_aload r_12_brokenOf_26 rfl ?_
          refine pw_iload r_12_brokenOf_27 rfl ?_
          refine pw_iload r_12_brokenOf_29 rfl ?_
          refine pw_callV (av := [vI (i), vI (d0)]) (st := [vI (n)]) (ls0 := [some (vR 12 (0)), some (vI (i)), some (vI (d0))]) r_12_brokenOf_30 rfl rfl rfl (Nat.le_refl _) ?_
          refine sp_X12_isBroken (by first | assumption | exact hsz | omega) (by first | assumption | exact hj | omega) ?_
          refine pw_if_eqB r_12_brokenOf_33 (fun h33 => ?_) (fun h33 => ?_)
          · skip
            refine pw_const r_12_brokenOf_40 ?_
            refine pw_iadd r_12_brokenOf_41 (by omega) ?_
            refine pw_istore (ls' := [some (vR 12 (0)), some (vI (z)), some (vI (d0)), some (vI ((n + 0))), some (vI (i))]) r_12_brokenOf_42 rfl rfl ?_
            refine pw_iinc (b := 0) (ls' := [some (vR 12 (0)), some (vI (z)), some (vI (d0)), some (vI ((n + 0))), some (vI ((i + 1)))]) r_12_brokenOf_43 rfl rfl (by omega) rfl ?_
            refine pw_goto r_12_brokenOf_46 ?_
            exact ih5 ((i + 1)) ((n + 0)) (by omega) (by first | (rw [cnt_t hi.1 (show (gA G 224 0 (i)) = z ∧ ((gA G 227 0 (i)) < d0 ∧ cnt (fun i1 => ((gA G 206 0 (i1)) = 5 ∧ (gA G 205 0 (i1)) = (gA G 224 0 (i))) ∧ (gA G 226 0 (i)) ≤ (gA G 213 0 (i1)) ∧ (gA G 213 0 (i1)) ≤ (gA G 227 0 (i))) (gF G 12 0 17) < (gA G 225 0 (i))) by omega)]; omega) | (rw [cnt_f hi.1 (show ¬ ((gA G 224 0 (i)) = z ∧ ((gA G 227 0 (i)) < d0 ∧ cnt (fun i1 => ((gA G 206 0 (i1)) = 5 ∧ (gA G 205 0 (i1)) = (gA G 224 0 (i))) ∧ (gA G 226 0 (i)) ≤ (gA G 213 0 (i1)) ∧ (gA G 213 0 (i1)) ≤ (gA G 227 0 (i))) (gF G 12 0 17) < (gA G 225 0 (i)))) by omega)]; omega)) (by omega)
          · skip
            refine pw_const r_12_brokenOf_36 ?_
            refine pw_goto r_12_brokenOf_37 ?_
            refine pw_iadd r_12_brokenOf_41 (by omega) ?_
            refine pw_istore (ls' := [some (vR 12 (0)), some (vI (z)), some (vI (d0)), some (vI ((n + 1))), some (vI (i))]) r_12_brokenOf_42 rfl rfl ?_
            refine pw_iinc (b := 0) (ls' := [some (vR 12 (0)), some (vI (z)), some (vI (d0)), some (vI ((n + 1))), some (vI ((i + 1)))]) r_12_brokenOf_43 rfl rfl (by omega) rfl ?_
            refine pw_goto r_12_brokenOf_46 ?_
            exact ih5 ((i + 1)) ((n + 1)) (by omega) (by first | (rw [cnt_t hi.1 (show (gA G 224 0 (i)) = z ∧ ((gA G 227 0 (i)) < d0 ∧ cnt (fun i1 => ((gA G 206 0 (i1)) = 5 ∧ (gA G 205 0 (i1)) = (gA G 224 0 (i))) ∧ (gA G 226 0 (i)) ≤ (gA G 213 0 (i1)) ∧ (gA G 213 0 (i1)) ≤ (gA G 227 0 (i))) (gF G 12 0 17) < (gA G 225 0 (i))) by omega)]; omega) | (rw [cnt_f hi.1 (show ¬ ((gA G 224 0 (i)) = z ∧ ((gA G 227 0 (i)) < d0 ∧ cnt (fun i1 => ((gA G 206 0 (i1)) = 5 ∧ (gA G 205 0 (i1)) = (gA G 224 0 (i))) ∧ (gA G 226 0 (i)) ≤ (gA G 213 0 (i1)) ∧ (gA G 213 0 (i1)) ≤ (gA G 227 0 (i))) (gF G 12 0 17) < (gA G 225 0 (i)))) by omega)]; omega)) (by omega)
  exact L5 _ (0) (0) (by omega) (rfl) (Nat.lt_succ_self _)
set_option maxRecDepth 10000 in
theorem sp_X9_tellBroken {l : Launch} {w : Wo} {d : Nat} {G : PH} {P : Option PV → PH → Prop} {z d0 : Int} (hp : ∀ i, 0 ≤ i → i < (gF G 1 0 1) → gD G 30 0 i = some (3, i)) (hsz : 0 ≤ (gF G 1 0 1) ∧ (gF G 1 0 1) ≤ 150) (hpr : 0 ≤ (gF G 9 0 2) ∧ (gF G 9 0 2) ≤ 40) (h1 : ¬ ((0 ≤ z ∧ z ≤ 1) ∧ 0 ≤ d0 ∧ d0 ≤ (gF G 1 0 2)) → P (some (vI (-1))) G) (h2 : ((0 ≤ z ∧ z ≤ 1) ∧ 0 ≤ d0 ∧ d0 ≤ (gF G 1 0 2)) → P (some (vI (cnt (fun i0 => (gA G 88 0 (i0)) = z ∧ ((gA G 91 0 (i0)) < d0 ∧ cnt (fun i1 => ((gF G 3 (i1) 2) = (gA G 88 0 (i0)) ∧ (gF G 3 (i1) 8) = 5) ∧ (gA G 90 0 (i0)) ≤ (gF G 3 (i1) 9) ∧ (gF G 3 (i1) 9) ≤ (gA G 91 0 (i0))) (gF G 1 0 1) < (gA G 89 0 (i0)))) (gF G 9 0 2)))) G) : PW l w M_X9_tellBroken (d + 3) 0 [some (vR 9 (0)), some (vI (z)), some (vI (d0))] [] G P := by
  refine pw_iload r_9_tellBroken_0 rfl ?_
  refine pw_callS (av := [vI (z)]) (st := []) (ls0 := [some (vI (z))]) r_9_tellBroken_1 rfl rfl rfl (Nat.le_refl _) ?_
  refine sp_X11_isSide  ?_
  refine pw_if_eqB r_9_tellBroken_4 (fun h04 => ?_) (fun h04 => ?_)
  · skip
    refine pw_const r_9_tellBroken_22 ?_
    refine pw_iret r_9_tellBroken_23 rfl (Nat.le_refl _) ⟨rfl, ?_⟩
    first | exact h1 (by omega) | exact h2 (by omega)
  · skip
    refine pw_iload r_9_tellBroken_7 rfl ?_
    refine pw_const r_9_tellBroken_8 ?_
    refine pw_aload r_9_tellBroken_9 rfl ?_
    refine pw_getR r_9_tellBroken_10 fs_9_3 (by decide) ?_
    refine pw_getI r_9_tellBroken_13 fs_1_2 (by decide) ?_
    refine pw_callS (av := [vI (d0), vI (0), vI (gF G 1 (0) 2)]) (st := []) (ls0 := [some (vI (d0)), some (vI (0)), some (vI (gF G 1 (0) 2))]) r_9_tellBroken_16 rfl rfl rfl (Nat.le_refl _) ?_
    refine sp_X11_within  ?_
    refine pw_if_neB r_9_tellBroken_19 (fun h19 => ?_) (fun h19 => ?_)
    · skip
      refine pw_aload r_9_tellBroken_24 rfl ?_
      refine pw_iload r_9_tellBroken_25 rfl ?_
      refine pw_iload r_9_tellBroken_26 rfl ?_
      refine pw_callV (av := [vI (z), vI (d0)]) (st := []) (ls0 := [some (vR 9 (0)), some (vI (z)), some (vI (d0)), none, none]) r_9_tellBroken_27 rfl rfl rfl (Nat.le_refl _) ?_
      refine sp_X9_countBroken (by first | assumption | exact hp | omega) (by first | assumption | exact hsz | omega) (by first | assumption | exact hpr | omega) ?_
      refine pw_iret r_9_tellBroken_30 rfl (Nat.le_refl _) ⟨rfl, ?_⟩
      first | exact h1 (by omega) | exact h2 (by omega)
    · skip
      refine pw_const r_9_tellBroken_22 ?_
      refine pw_iret r_9_tellBroken_23 rfl (Nat.le_refl _) ⟨rfl, ?_⟩
      first | exact h1 (by omega) | exact h2 (by omega)
set_option maxRecDepth 10000 in
theorem sp_X12_broken {l : Launch} {w : Wo} {d : Nat} {G : PH} {P : Option PV → PH → Prop} {z d0 : Int} (hsz : 0 ≤ (gF G 12 0 17) ∧ (gF G 12 0 17) ≤ 150) (hpr : 0 ≤ (gF G 12 0 34) ∧ (gF G 12 0 34) ≤ 40) (h1 : ¬ ((0 ≤ z ∧ z ≤ 1) ∧ 0 ≤ d0 ∧ d0 ≤ (gF G 12 0 0)) → P (some (vI (-1))) G) (h2 : ((0 ≤ z ∧ z ≤ 1) ∧ 0 ≤ d0 ∧ d0 ≤ (gF G 12 0 0)) → P (some (vI (cnt (fun i0 => (gA G 224 0 (i0)) = z ∧ ((gA G 227 0 (i0)) < d0 ∧ cnt (fun i1 => ((gA G 206 0 (i1)) = 5 ∧ (gA G 205 0 (i1)) = (gA G 224 0 (i0))) ∧ (gA G 226 0 (i0)) ≤ (gA G 213 0 (i1)) ∧ (gA G 213 0 (i1)) ≤ (gA G 227 0 (i0))) (gF G 12 0 17) < (gA G 225 0 (i0)))) (gF G 12 0 34)))) G) : PW l w M_X12_broken (d + 4) 0 [some (vR 12 (0)), some (vI (z)), some (vI (d0))] [] G P := by
  refine pw_iload r_12_broken_0 rfl ?_
  refine pw_callS (av := [vI (z)]) (st := []) (ls0 := [some (vI (z))]) r_12_broken_1 rfl rfl rfl (Nat.le_refl _) ?_
  refine sp_X12_isSide  ?_
  refine pw_if_eqB r_12_broken_4 (fun h04 => ?_) (fun h04 => ?_)
  · skip
    refine pw_const r_12_broken_28 ?_
    refine pw_iret r_12_broken_29 rfl (Nat.le_refl _) ⟨rfl, ?_⟩
    first | exact h1 (by omega) | exact h2 (by omega)
  · skip
    refine pw_iload r_12_broken_7 rfl ?_
    refine pw_const r_12_broken_8 ?_
    refine pw_aload r_12_broken_9 rfl ?_
    refine pw_getI r_12_broken_10 fs_12_0 (by decide) ?_
    refine pw_callS (av := [vI (d0), vI (0), vI (gF G 12 (0) 0)]) (st := []) (ls0 := [some (vI (d0)), some (vI (0)), some (vI (gF G 12 (0) 0))]) r_12_broken_13 rfl rfl rfl (Nat.le_refl _) ?_
    refine sp_X12_within  ?_
    refine pw_if_eqB r_12_broken_16 (fun h16 => ?_) (fun h16 => ?_)
    · skip
      refine pw_const r_12_broken_28 ?_
      refine pw_iret r_12_broken_29 rfl (Nat.le_refl _) ⟨rfl, ?_⟩
      first | exact h1 (by omega) | exact h2 (by omega)
    · skip
      refine pw_aload r_12_broken_19 rfl ?_
      refine pw_iload r_12_broken_20 rfl ?_
      refine pw_iload r_12_broken_21 rfl ?_
      refine pw_callV (av := [vI (z), vI (d0)]) (st := []) (ls0 := [some (vR 12 (0)), some (vI (z)), some (vI (d0)), none, none]) r_12_broken_22 rfl rfl rfl (Nat.le_refl _) ?_
      refine sp_X12_brokenOf (by first | assumption | exact hsz | omega) (by first | assumption | exact hpr | omega) ?_
      refine pw_goto r_12_broken_25 ?_
      refine pw_iret r_12_broken_29 rfl (Nat.le_refl _) ⟨rfl, ?_⟩
      first | exact h1 (by omega) | exact h2 (by omega)
set_option maxRecDepth 10000 in
theorem sp_X9_tellPromise {l : Launch} {w : Wo} {d : Nat} {G : PH} {P : Option PV → PH → Prop} {j k : Int} (hp : ∀ i, 0 ≤ i → i < (gF G 1 0 1) → gD G 30 0 i = some (3, i)) (hsz : 0 ≤ (gF G 1 0 1) ∧ (gF G 1 0 1) ≤ 150) (hpr : 0 ≤ (gF G 9 0 2) ∧ (gF G 9 0 2) ≤ 40) (h1 : ¬ (0 ≤ j ∧ j < (gF G 9 0 2)) → P (some (vI (-1))) G) (h2 : (0 ≤ j ∧ j < (gF G 9 0 2)) → ∀ v, ((k = 0 ∧ v = (gA G 88 0 (j))) ∨ (k = 1 ∧ v = (gA G 89 0 (j))) ∨ (k = 2 ∧ v = (gA G 91 0 (j))) ∨ (k = 3 ∧ v = cnt (fun i1 => ((gF G 3 (i1) 2) = (gA G 88 0 (j)) ∧ (gF G 3 (i1) 8) = 5) ∧ (gA G 90 0 (j)) ≤ (gF G 3 (i1) 9) ∧ (gF G 3 (i1) 9) ≤ (gA G 91 0 (j))) (gF G 1 0 1)) ∨ (k = 4 ∧ ((((gA G 91 0 (j)) < (gF G 1 0 2) ∧ cnt (fun i1 => ((gF G 3 (i1) 2) = (gA G 88 0 (j)) ∧ (gF G 3 (i1) 8) = 5) ∧ (gA G 90 0 (j)) ≤ (gF G 3 (i1) 9) ∧ (gF G 3 (i1) 9) ≤ (gA G 91 0 (j))) (gF G 1 0 1) < (gA G 89 0 (j))) ∧ v = 1) ∨ (¬ ((gA G 91 0 (j)) < (gF G 1 0 2) ∧ cnt (fun i1 => ((gF G 3 (i1) 2) = (gA G 88 0 (j)) ∧ (gF G 3 (i1) 8) = 5) ∧ (gA G 90 0 (j)) ≤ (gF G 3 (i1) 9) ∧ (gF G 3 (i1) 9) ≤ (gA G 91 0 (j))) (gF G 1 0 1) < (gA G 89 0 (j))) ∧ v = 0))) ∨ (¬ (0 ≤ k ∧ k ≤ 4) ∧ v = -1)) → P (some (vI v)) G) : PW l w M_X9_tellPromise (d + 2) 0 [some (vR 9 (0)), some (vI (j)), some (vI (k))] [] G P := by
  refine pw_iload r_9_tellPromise_0 rfl ?_
  refine pw_if_lt r_9_tellPromise_1 (fun h01 => ?_) (fun h01 => ?_)
  · skip
    refine pw_const r_9_tellPromise_12 ?_
    refine pw_iret r_9_tellPromise_13 rfl (Nat.le_refl _) ⟨rfl, ?_⟩
    first | exact h1 (by omega) | exact h2 (by omega) _ (by omega)
  · skip
    refine pw_iload r_9_tellPromise_4 rfl ?_
    refine pw_aload r_9_tellPromise_5 rfl ?_
    refine pw_getI r_9_tellPromise_6 fs_9_2 (by decide) ?_
    refine pw_icmp_lt r_9_tellPromise_9 (fun h09 => ?_) (fun h09 => ?_)
    · skip
      refine pw_iload r_9_tellPromise_14 rfl ?_
      refine pw_tswitch r_9_tellPromise_15 ?_
      refine pw_swt (fun h15 => ?_) (fun h15_0 => ?_)
      · skip
        refine pw_aload r_9_tellPromise_48 rfl ?_
        refine pw_getR r_9_tellPromise_49 fs_9_10 (by decide) ?_
        refine pw_iload r_9_tellPromise_52 rfl ?_
        refine pw_iald r_9_tellPromise_53 sh88 (by omega) (by omega) ?_
        refine pw_iret r_9_tellPromise_54 rfl (Nat.le_refl _) ⟨rfl, ?_⟩
        first | exact h1 (by omega) | exact h2 (by omega) _ (by omega)
      refine pw_swt (fun h15 => ?_) (fun h15_1 => ?_)
      · skip
        refine pw_aload r_9_tellPromise_55 rfl ?_
        refine pw_getR r_9_tellPromise_56 fs_9_11 (by decide) ?_
        refine pw_iload r_9_tellPromise_59 rfl ?_
        refine pw_iald r_9_tellPromise_60 sh89 (by omega) (by omega) ?_
        refine pw_iret r_9_tellPromise_61 rfl (Nat.le_refl _) ⟨rfl, ?_⟩
        first | exact h1 (by omega) | exact h2 (by omega) _ (by omega)
      refine pw_swt (fun h15 => ?_) (fun h15_2 => ?_)
      · skip
        refine pw_aload r_9_tellPromise_62 rfl ?_
        refine pw_getR r_9_tellPromise_63 fs_9_13 (by decide) ?_
        refine pw_iload r_9_tellPromise_66 rfl ?_
        refine pw_iald r_9_tellPromise_67 sh91 (by omega) (by omega) ?_
        refine pw_iret r_9_tellPromise_68 rfl (Nat.le_refl _) ⟨rfl, ?_⟩
        first | exact h1 (by omega) | exact h2 (by omega) _ (by omega)
      refine pw_swt (fun h15 => ?_) (fun h15_3 => ?_)
      · skip
        refine pw_aload r_9_tellPromise_69 rfl ?_
        refine pw_getR r_9_tellPromise_70 fs_9_3 (by decide) ?_
        refine pw_aload r_9_tellPromise_73 rfl ?_
        refine pw_getR r_9_tellPromise_74 fs_9_10 (by decide) ?_
        refine pw_iload r_9_tellPromise_77 rfl ?_
        refine pw_iald r_9_tellPromise_78 sh88 (by omega) (by omega) ?_
        refine pw_aload r_9_tellPromise_79 rfl ?_
        refine pw_getR r_9_tellPromise_80 fs_9_12 (by decide) ?_
        refine pw_iload r_9_tellPromise_83 rfl ?_
        refine pw_iald r_9_tellPromise_84 sh90 (by omega) (by omega) ?_
        refine pw_aload r_9_tellPromise_85 rfl ?_
        refine pw_getR r_9_tellPromise_86 fs_9_13 (by decide) ?_
        refine pw_iload r_9_tellPromise_89 rfl ?_
        refine pw_iald r_9_tellPromise_90 sh91 (by omega) (by omega) ?_
        refine pw_callV (av := [vI (gA G 88 (0) (j)), vI (gA G 90 (0) (j)), vI (gA G 91 (0) (j))]) (st := []) (ls0 := [some (vR 1 (0)), some (vI (gA G 88 (0) (j))), some (vI (gA G 90 (0) (j))), some (vI (gA G 91 (0) (j))), none, none, none, none]) r_9_tellPromise_91 rfl rfl rfl (Nat.le_refl _) ?_
        refine sp_X1_countHandedOver (by first | assumption | exact hp | omega) (by first | assumption | exact hsz | omega) ?_
        refine pw_iret r_9_tellPromise_94 rfl (Nat.le_refl _) ⟨rfl, ?_⟩
        first | exact h1 (by omega) | exact h2 (by omega) _ (by omega)
      refine pw_swt (fun h15 => ?_) (fun h15_4 => ?_)
      · skip
        refine pw_aload r_9_tellPromise_95 rfl ?_
        refine pw_iload r_9_tellPromise_96 rfl ?_
        refine pw_aload r_9_tellPromise_97 rfl ?_
        refine pw_getR r_9_tellPromise_98 fs_9_3 (by decide) ?_
        refine pw_getI r_9_tellPromise_101 fs_1_2 (by decide) ?_
        refine pw_callV (av := [vI (j), vI (gF G 1 (0) 2)]) (st := []) (ls0 := [some (vR 9 (0)), some (vI (j)), some (vI (gF G 1 (0) 2))]) r_9_tellPromise_104 rfl rfl rfl (Nat.le_refl _) ?_
        refine sp_X9_isBroken (by first | assumption | exact hp | omega) (by first | assumption | exact hsz | omega) (by first | assumption | exact hj | omega) ?_
        refine pw_if_eqB r_9_tellPromise_107 (fun h107 => ?_) (fun h107 => ?_)
        · skip
          refine pw_const r_9_tellPromise_114 ?_
          refine pw_iret r_9_tellPromise_115 rfl (Nat.le_refl _) ⟨rfl, ?_⟩
          first | exact h1 (by omega) | exact h2 (by omega) _ (by omega)
        · skip
          refine pw_const r_9_tellPromise_110 ?_
          refine pw_goto r_9_tellPromise_111 ?_
          refine pw_iret r_9_tellPromise_115 rfl (Nat.le_refl _) ⟨rfl, ?_⟩
          first | exact h1 (by omega) | exact h2 (by omega) _ (by omega)
      refine pw_swd ?_
      refine pw_const r_9_tellPromise_116 ?_
      refine pw_iret r_9_tellPromise_117 rfl (Nat.le_refl _) ⟨rfl, ?_⟩
      first | exact h1 (by omega) | exact h2 (by omega) _ (by omega)
    · skip
      refine pw_const r_9_tellPromise_12 ?_
      refine pw_iret r_9_tellPromise_13 rfl (Nat.le_refl _) ⟨rfl, ?_⟩
      first | exact h1 (by omega) | exact h2 (by omega) _ (by omega)
set_option maxRecDepth 10000 in
theorem sp_X12_ofPromise {l : Launch} {w : Wo} {d : Nat} {G : PH} {P : Option PV → PH → Prop} {j k : Int} (hsz : 0 ≤ (gF G 12 0 17) ∧ (gF G 12 0 17) ≤ 150) (hpr : 0 ≤ (gF G 12 0 34) ∧ (gF G 12 0 34) ≤ 40) (h1 : ¬ (0 ≤ j ∧ j < (gF G 12 0 34)) → P (some (vI (-1))) G) (h2 : (0 ≤ j ∧ j < (gF G 12 0 34)) → ∀ v, ((k = 0 ∧ v = (gA G 224 0 (j))) ∨ (k = 1 ∧ v = (gA G 225 0 (j))) ∨ (k = 2 ∧ v = (gA G 227 0 (j))) ∨ (k = 3 ∧ v = cnt (fun i1 => ((gA G 206 0 (i1)) = 5 ∧ (gA G 205 0 (i1)) = (gA G 224 0 (j))) ∧ (gA G 226 0 (j)) ≤ (gA G 213 0 (i1)) ∧ (gA G 213 0 (i1)) ≤ (gA G 227 0 (j))) (gF G 12 0 17)) ∨ (k = 4 ∧ ((((gA G 227 0 (j)) < (gF G 12 0 0) ∧ cnt (fun i1 => ((gA G 206 0 (i1)) = 5 ∧ (gA G 205 0 (i1)) = (gA G 224 0 (j))) ∧ (gA G 226 0 (j)) ≤ (gA G 213 0 (i1)) ∧ (gA G 213 0 (i1)) ≤ (gA G 227 0 (j))) (gF G 12 0 17) < (gA G 225 0 (j))) ∧ v = 1) ∨ (¬ ((gA G 227 0 (j)) < (gF G 12 0 0) ∧ cnt (fun i1 => ((gA G 206 0 (i1)) = 5 ∧ (gA G 205 0 (i1)) = (gA G 224 0 (j))) ∧ (gA G 226 0 (j)) ≤ (gA G 213 0 (i1)) ∧ (gA G 213 0 (i1)) ≤ (gA G 227 0 (j))) (gF G 12 0 17) < (gA G 225 0 (j))) ∧ v = 0))) ∨ (¬ (0 ≤ k ∧ k ≤ 4) ∧ v = -1)) → P (some (vI v)) G) : PW l w M_X12_ofPromise (d + 3) 0 [some (vR 12 (0)), some (vI (j)), some (vI (k))] [] G P := by
  refine pw_iload r_12_ofPromise_0 rfl ?_
  refine pw_if_lt r_12_ofPromise_1 (fun h01 => ?_) (fun h01 => ?_)
  · skip
    refine pw_const r_12_ofPromise_12 ?_
    refine pw_iret r_12_ofPromise_13 rfl (Nat.le_refl _) ⟨rfl, ?_⟩
    first | exact h1 (by omega) | exact h2 (by omega) _ (by omega)
  · skip
    refine pw_iload r_12_ofPromise_4 rfl ?_
    refine pw_aload r_12_ofPromise_5 rfl ?_
    refine pw_getI r_12_ofPromise_6 fs_12_34 (by decide) ?_
    refine pw_icmp_lt r_12_ofPromise_9 (fun h09 => ?_) (fun h09 => ?_)
    · skip
      refine pw_iload r_12_ofPromise_14 rfl ?_
      refine pw_tswitch r_12_ofPromise_15 ?_
      refine pw_swt (fun h15 => ?_) (fun h15_0 => ?_)
      · skip
        refine pw_aload r_12_ofPromise_48 rfl ?_
        refine pw_getR r_12_ofPromise_49 fs_12_30 (by decide) ?_
        refine pw_iload r_12_ofPromise_52 rfl ?_
        refine pw_iald r_12_ofPromise_53 sh224 (by omega) (by omega) ?_
        refine pw_iret r_12_ofPromise_54 rfl (Nat.le_refl _) ⟨rfl, ?_⟩
        first | exact h1 (by omega) | exact h2 (by omega) _ (by omega)
      refine pw_swt (fun h15 => ?_) (fun h15_1 => ?_)
      · skip
        refine pw_aload r_12_ofPromise_55 rfl ?_
        refine pw_getR r_12_ofPromise_56 fs_12_31 (by decide) ?_
        refine pw_iload r_12_ofPromise_59 rfl ?_
        refine pw_iald r_12_ofPromise_60 sh225 (by omega) (by omega) ?_
        refine pw_iret r_12_ofPromise_61 rfl (Nat.le_refl _) ⟨rfl, ?_⟩
        first | exact h1 (by omega) | exact h2 (by omega) _ (by omega)
      refine pw_swt (fun h15 => ?_) (fun h15_2 => ?_)
      · skip
        refine pw_aload r_12_ofPromise_62 rfl ?_
        refine pw_getR r_12_ofPromise_63 fs_12_33 (by decide) ?_
        refine pw_iload r_12_ofPromise_66 rfl ?_
        refine pw_iald r_12_ofPromise_67 sh227 (by omega) (by omega) ?_
        refine pw_iret r_12_ofPromise_68 rfl (Nat.le_refl _) ⟨rfl, ?_⟩
        first | exact h1 (by omega) | exact h2 (by omega) _ (by omega)
      refine pw_swt (fun h15 => ?_) (fun h15_3 => ?_)
      · skip
        refine pw_aload r_12_ofPromise_69 rfl ?_
        refine pw_iload r_12_ofPromise_70 rfl ?_
        refine pw_callV (av := [vI (j)]) (st := []) (ls0 := [some (vR 12 (0)), some (vI (j)), none, none, none]) r_12_ofPromise_71 rfl rfl rfl (Nat.le_refl _) ?_
        refine sp_X12_doneOf (by first | assumption | exact hsz | omega) (by first | assumption | exact hj | omega) ?_
        refine pw_iret r_12_ofPromise_74 rfl (Nat.le_refl _) ⟨rfl, ?_⟩
        first | exact h1 (by omega) | exact h2 (by omega) _ (by omega)
      refine pw_swt (fun h15 => ?_) (fun h15_4 => ?_)
      · skip
        refine pw_aload r_12_ofPromise_75 rfl ?_
        refine pw_iload r_12_ofPromise_76 rfl ?_
        refine pw_aload r_12_ofPromise_77 rfl ?_
        refine pw_getI r_12_ofPromise_78 fs_12_0 (by decide) ?_
        refine pw_callV (av := [vI (j), vI (gF G 12 (0) 0)]) (st := []) (ls0 := [some (vR 12 (0)), some (vI (j)), some (vI (gF G 12 (0) 0))]) r_12_ofPromise_81 rfl rfl rfl (Nat.le_refl _) ?_
        refine sp_X12_isBroken (by first | assumption | exact hsz | omega) (by first | assumption | exact hj | omega) ?_
        refine pw_if_eqB r_12_ofPromise_84 (fun h84 => ?_) (fun h84 => ?_)
        · skip
          refine pw_const r_12_ofPromise_91 ?_
          refine pw_iret r_12_ofPromise_92 rfl (Nat.le_refl _) ⟨rfl, ?_⟩
          first | exact h1 (by omega) | exact h2 (by omega) _ (by omega)
        · skip
          refine pw_const r_12_ofPromise_87 ?_
          refine pw_goto r_12_ofPromise_88 ?_
          refine pw_iret r_12_ofPromise_92 rfl (Nat.le_refl _) ⟨rfl, ?_⟩
          first | exact h1 (by omega) | exact h2 (by omega) _ (by omega)
      refine pw_swd ?_
      refine pw_const r_12_ofPromise_93 ?_
      refine pw_iret r_12_ofPromise_94 rfl (Nat.le_refl _) ⟨rfl, ?_⟩
      first | exact h1 (by omega) | exact h2 (by omega) _ (by omega)
    · skip
      refine pw_const r_12_ofPromise_12 ?_
      refine pw_iret r_12_ofPromise_13 rfl (Nat.le_refl _) ⟨rfl, ?_⟩
      first | exact h1 (by omega) | exact h2 (by omega) _ (by omega)
set_option maxRecDepth 10000 in
theorem sp_X11_fact {l : Launch} {w : Wo} {d : Nat} {G : PH} {P : Option PV → PH → Prop} {p s v : Int} (hp : ∀ i, 0 ≤ i → i < (gF G 1 0 1) → gD G 30 0 i = some (3, i)) (hsz : 0 ≤ (gF G 1 0 1) ∧ (gF G 1 0 1) ≤ 150) (hf : 0 ≤ (gF G 9 0 0) ∧ (gF G 9 0 0) ≤ 300) (hday : 0 ≤ (gF G 1 0 2) ∧ (gF G 1 0 2) ≤ 600) (h1 : ¬ ((0 ≤ p ∧ p < (gF G 1 0 1)) ∧ (0 ≤ s ∧ s ≤ 2) ∧ 0 ≤ v ∧ v ≤ 1) → P (some (vI (-1))) G) (h2 : (((0 ≤ p ∧ p < (gF G 1 0 1)) ∧ (0 ≤ s ∧ s ≤ 2) ∧ 0 ≤ v ∧ v ≤ 1)) → (s = 0 ∧ (gF G 3 (p) 8) ≠ 0) → P (some (vI (-3))) G) (h3 : (((0 ≤ p ∧ p < (gF G 1 0 1)) ∧ (0 ≤ s ∧ s ≤ 2) ∧ 0 ≤ v ∧ v ≤ 1)) → (¬ (s = 0 ∧ (gF G 3 (p) 8) ≠ 0)) → (300 ≤ (gF G 9 0 0)) → P (some (vI (-2))) G) (h4 : (((0 ≤ p ∧ p < (gF G 1 0 1)) ∧ (0 ≤ s ∧ s ≤ 2) ∧ 0 ≤ v ∧ v ≤ 1)) → (¬ (s = 0 ∧ (gF G 3 (p) 8) ≠ 0)) → ((gF G 9 0 0) < 300) → ∀ vv cc, ((s = 0 ∧ vv = (gF G 3 (p) 6)) ∨ (s ≠ 0 ∧ vv = v)) → (((gF G 9 0 9) = (gF G 1 0 2) ∧ cc = (gF G 1 0 2) + 7) ∨ ((gF G 9 0 9) ≠ (gF G 1 0 2) ∧ cc = 1000000000)) → P (some (vI ((gF G 9 0 0) + 1))) (sF (sA (sA (sA (sA (sA G 83 0 ((gF G 9 0 0)) (p)) 84 0 ((gF G 9 0 0)) (s)) 85 0 ((gF G 9 0 0)) (vv)) 86 0 ((gF G 9 0 0)) ((gF G 1 0 2))) 87 0 ((gF G 9 0 0)) (cc)) 9 0 0 ((gF G 9 0 0) + 1))) : PW l w M_X11_fact (d + 2) 0 [some (vR 11 (0)), some (vI (p)), some (vI (s)), some (vI (v))] [] G P := by
  refine pw_aload r_11_fact_0 rfl ?_
  refine pw_getR r_11_fact_1 fs_11_2 (by decide) ?_
  refine pw_iload r_11_fact_4 rfl ?_
  refine pw_iload r_11_fact_5 rfl ?_
  refine pw_iload r_11_fact_6 rfl ?_
  refine pw_callV (av := [vI (p), vI (s), vI (v)]) (st := []) (ls0 := [some (vR 9 (0)), some (vI (p)), some (vI (s)), some (vI (v)), none]) r_11_fact_7 rfl rfl rfl (Nat.le_refl _) ?_
  refine sp_X9_addFact (by first | assumption | exact hp | omega) (by first | assumption | exact hsz | omega) (by first | assumption | exact hf | omega) (by first | assumption | exact hday | omega) ?_ ?_ ?_ ?_
  · skip
    intro q1
    refine pw_iret r_11_fact_10 rfl (Nat.le_refl _) ⟨rfl, ?_⟩
    exact h1 q1
  · skip
    intro q1 q2
    refine pw_iret r_11_fact_10 rfl (Nat.le_refl _) ⟨rfl, ?_⟩
    exact h2 q1 q2
  · skip
    intro q1 q2 q3
    refine pw_iret r_11_fact_10 rfl (Nat.le_refl _) ⟨rfl, ?_⟩
    exact h3 q1 q2 q3
  · skip
    intro q1 q2 q3 vv cc q4 q5
    refine pw_eqG (G' := sF (sA (sA (sA (sA (sA G 83 (0) ((gF G 9 (0) 0)) (p)) 84 (0) ((gF G 9 (0) 0)) (s)) 85 (0) ((gF G 9 (0) 0)) (vv)) 86 (0) ((gF G 9 (0) 0)) ((gF G 1 (0) 2))) 87 (0) ((gF G 9 (0) 0)) (cc)) 9 (0) 0 ((gF G 9 (0) 0) + 1)) (by first | rfl | simp (disch := decide) [gF_sF, gF_sA, gF_uA, gF_sD, gA_sF, gA_sA, gA_uA, gA_sD, gD_sF, gD_sA, gD_uA, gD_sD]) ?_
    refine pw_iret r_11_fact_10 rfl (Nat.le_refl _) ⟨rfl, ?_⟩
    exact h4 q1 q2 q3 vv cc q4 q5
set_option maxRecDepth 10000 in
theorem sp_X11_letter {l : Launch} {w : Wo} {d : Nat} {G : PH} {P : Option PV → PH → Prop} (hf : 0 ≤ (gF G 9 0 0) ∧ (gF G 9 0 0) ≤ 300) (hlt : 0 ≤ (gF G 9 0 1) ∧ (gF G 9 0 1) ≤ 60) (hday : 0 ≤ (gF G 1 0 2) ∧ (gF G 1 0 2) ≤ 600) (h1 : 60 ≤ (gF G 9 0 1) → P (some (vI (-2))) G) (h2 : (gF G 9 0 1) < 60 → P (some (vI ((gF G 9 0 1) + 1))) (sF (uA (sF G 9 0 9 ((gF G 1 0 2))) 87 0 ((filF (fun j0 => (gA G 87 0 (j0)) = 1000000000) (fun j0 => (gF G 1 0 2) + 7) (gA G 87 0) (gF G 9 0 0)))) 9 0 1 ((gF G 9 0 1) + 1))) : PW l w M_X11_letter (d + 1) 0 [some (vR 11 (0))] [] G P := by
  refine pw_aload r_11_letter_0 rfl ?_
  refine pw_getR r_11_letter_1 fs_11_2 (by decide) ?_
  refine pw_callV (av := []) (st := []) (ls0 := [some (vR 9 (0)), none]) r_11_letter_4 rfl rfl rfl (Nat.le_refl _) ?_
  refine sp_X9_addLetter (by first | assumption | exact hf | omega) (by first | assumption | exact hlt | omega) (by first | assumption | exact hday | omega) ?_ ?_
  · skip
    intro q1
    refine pw_iret r_11_letter_7 rfl (Nat.le_refl _) ⟨rfl, ?_⟩
    exact h1 q1
  · skip
    intro q1
    refine pw_eqG (G' := sF (uA (sF G 9 (0) 9 ((gF G 1 (0) 2))) 87 (0) ((filF (fun j0 => (gA G 87 (0) (j0)) = 1000000000) (fun j0 => (gF G 1 (0) 2) + 7) (gA G 87 0) (gF G 9 (0) 0)))) 9 (0) 1 ((gF G 9 (0) 1) + 1)) (by first | rfl | simp (disch := decide) [gF_sF, gF_sA, gF_uA, gF_sD, gA_sF, gA_sA, gA_uA, gA_sD, gD_sF, gD_sA, gD_uA, gD_sD]) ?_
    refine pw_iret r_11_letter_7 rfl (Nat.le_refl _) ⟨rfl, ?_⟩
    exact h2 q1
set_option maxRecDepth 10000 in
theorem sp_X11_known {l : Launch} {w : Wo} {d : Nat} {G : PH} {P : Option PV → PH → Prop} {z p s k : Int} (hp : ∀ i, 0 ≤ i → i < (gF G 1 0 1) → gD G 30 0 i = some (3, i)) (hsz : 0 ≤ (gF G 1 0 1) ∧ (gF G 1 0 1) ≤ 150) (hf : 0 ≤ (gF G 9 0 0) ∧ (gF G 9 0 0) ≤ 300) (hnum : (0 ≤ p ∧ p < (gF G 1 0 1)) → (gF G 3 (p) 0) = p) (h1 : ¬ ((0 ≤ z ∧ z ≤ 1) ∧ (0 ≤ p ∧ p < (gF G 1 0 1)) ∧ (0 ≤ s ∧ s ≤ 2) ∧ 0 ≤ k ∧ k ≤ 600) → P (some (vI (-1))) G) (h2 : ((0 ≤ z ∧ z ≤ 1) ∧ (0 ≤ p ∧ p < (gF G 1 0 1)) ∧ (0 ≤ s ∧ s ≤ 2) ∧ 0 ≤ k ∧ k ≤ 600) → P (some (vI (lastOf (fun i => ((gA G 83 0 (i)) = p ∧ (gA G 84 0 (i)) = s ∧ ((((s = 2 ∧ z ≠ (gF G 3 (p) 2)) ∨ (s ≠ 2 ∧ z = (gF G 3 (p) 2))) ∧ (gA G 86 0 (i)) ≤ k) ∨ (¬ ((s = 2 ∧ z ≠ (gF G 3 (p) 2)) ∨ (s ≠ 2 ∧ z = (gF G 3 (p) 2))) ∧ (gA G 87 0 (i)) ≤ k)))) (gA G 85 0) 0 (gF G 9 0 0)))) G) : PW l w M_X11_known (d + 3) 0 [some (vR 11 (0)), some (vI (z)), some (vI (p)), some (vI (s)), some (vI (k))] [] G P := by
  refine pw_aload r_11_known_0 rfl ?_
  refine pw_getR r_11_known_1 fs_11_2 (by decide) ?_
  refine pw_iload r_11_known_4 rfl ?_
  refine pw_iload r_11_known_5 rfl ?_
  refine pw_iload r_11_known_6 rfl ?_
  refine pw_iload r_11_known_7 rfl ?_
  refine pw_callV (av := [vI (z), vI (p), vI (s), vI (k)]) (st := []) (ls0 := [some (vR 9 (0)), some (vI (z)), some (vI (p)), some (vI (s)), some (vI (k)), none]) r_11_known_9 rfl rfl rfl (Nat.le_refl _) ?_
  refine sp_X9_tellKnown (by first | assumption | exact hp | omega) (by first | assumption | exact hsz | omega) (by first | assumption | exact hf | omega) (by first | assumption | exact hnum | omega) ?_ ?_
  · skip
    intro q1
    refine pw_iret r_11_known_12 rfl (Nat.le_refl _) ⟨rfl, ?_⟩
    exact h1 q1
  · skip
    intro q1
    refine pw_iret r_11_known_12 rfl (Nat.le_refl _) ⟨rfl, ?_⟩
    exact h2 q1
set_option maxRecDepth 10000 in
theorem sp_X11_promise {l : Launch} {w : Wo} {d : Nat} {G : PH} {P : Option PV → PH → Prop} {z n t : Int} (hpr : 0 ≤ (gF G 9 0 2) ∧ (gF G 9 0 2) ≤ 40) (h1 : ¬ ((0 ≤ z ∧ z ≤ 1) ∧ (1 ≤ n ∧ n ≤ 99) ∧ (gF G 1 0 2) ≤ t ∧ t ≤ 600) → P (some (vI (-1))) G) (h2 : ((0 ≤ z ∧ z ≤ 1) ∧ (1 ≤ n ∧ n ≤ 99) ∧ (gF G 1 0 2) ≤ t ∧ t ≤ 600) → (40 ≤ (gF G 9 0 2)) → P (some (vI (-2))) G) (h3 : ((0 ≤ z ∧ z ≤ 1) ∧ (1 ≤ n ∧ n ≤ 99) ∧ (gF G 1 0 2) ≤ t ∧ t ≤ 600) → ((gF G 9 0 2) < 40) → P (some (vI (gF G 9 0 2))) (sF (sA (sA (sA (sA G 88 0 ((gF G 9 0 2)) (z)) 89 0 ((gF G 9 0 2)) (n)) 90 0 ((gF G 9 0 2)) ((gF G 1 0 2))) 91 0 ((gF G 9 0 2)) (t)) 9 0 2 ((gF G 9 0 2) + 1))) : PW l w M_X11_promise (d + 2) 0 [some (vR 11 (0)), some (vI (z)), some (vI (n)), some (vI (t))] [] G P := by
  refine pw_aload r_11_promise_0 rfl ?_
  refine pw_getR r_11_promise_1 fs_11_2 (by decide) ?_
  refine pw_iload r_11_promise_4 rfl ?_
  refine pw_iload r_11_promise_5 rfl ?_
  refine pw_iload r_11_promise_6 rfl ?_
  refine pw_callV (av := [vI (z), vI (n), vI (t)]) (st := []) (ls0 := [some (vR 9 (0)), some (vI (z)), some (vI (n)), some (vI (t))]) r_11_promise_7 rfl rfl rfl (Nat.le_refl _) ?_
  refine sp_X9_addPromise (by first | assumption | exact hpr | omega) ?_ ?_ ?_
  · skip
    intro q1
    refine pw_iret r_11_promise_10 rfl (Nat.le_refl _) ⟨rfl, ?_⟩
    exact h1 q1
  · skip
    intro q1 q2
    refine pw_iret r_11_promise_10 rfl (Nat.le_refl _) ⟨rfl, ?_⟩
    exact h2 q1 q2
  · skip
    intro q1 q2
    refine pw_eqG (G' := sF (sA (sA (sA (sA G 88 (0) ((gF G 9 (0) 2)) (z)) 89 (0) ((gF G 9 (0) 2)) (n)) 90 (0) ((gF G 9 (0) 2)) ((gF G 1 (0) 2))) 91 (0) ((gF G 9 (0) 2)) (t)) 9 (0) 2 ((gF G 9 (0) 2) + 1)) (by first | rfl | simp (disch := decide) [gF_sF, gF_sA, gF_uA, gF_sD, gA_sF, gA_sA, gA_uA, gA_sD, gD_sF, gD_sA, gD_uA, gD_sD]) ?_
    refine pw_iret r_11_promise_10 rfl (Nat.le_refl _) ⟨rfl, ?_⟩
    exact h3 q1 q2
set_option maxRecDepth 10000 in
theorem sp_X11_ofPromise {l : Launch} {w : Wo} {d : Nat} {G : PH} {P : Option PV → PH → Prop} {j k : Int} (hp : ∀ i, 0 ≤ i → i < (gF G 1 0 1) → gD G 30 0 i = some (3, i)) (hsz : 0 ≤ (gF G 1 0 1) ∧ (gF G 1 0 1) ≤ 150) (hpr : 0 ≤ (gF G 9 0 2) ∧ (gF G 9 0 2) ≤ 40) (h1 : ¬ (0 ≤ j ∧ j < (gF G 9 0 2)) → P (some (vI (-1))) G) (h2 : (0 ≤ j ∧ j < (gF G 9 0 2)) → ∀ v, ((k = 0 ∧ v = (gA G 88 0 (j))) ∨ (k = 1 ∧ v = (gA G 89 0 (j))) ∨ (k = 2 ∧ v = (gA G 91 0 (j))) ∨ (k = 3 ∧ v = cnt (fun i1 => ((gF G 3 (i1) 2) = (gA G 88 0 (j)) ∧ (gF G 3 (i1) 8) = 5) ∧ (gA G 90 0 (j)) ≤ (gF G 3 (i1) 9) ∧ (gF G 3 (i1) 9) ≤ (gA G 91 0 (j))) (gF G 1 0 1)) ∨ (k = 4 ∧ ((((gA G 91 0 (j)) < (gF G 1 0 2) ∧ cnt (fun i1 => ((gF G 3 (i1) 2) = (gA G 88 0 (j)) ∧ (gF G 3 (i1) 8) = 5) ∧ (gA G 90 0 (j)) ≤ (gF G 3 (i1) 9) ∧ (gF G 3 (i1) 9) ≤ (gA G 91 0 (j))) (gF G 1 0 1) < (gA G 89 0 (j))) ∧ v = 1) ∨ (¬ ((gA G 91 0 (j)) < (gF G 1 0 2) ∧ cnt (fun i1 => ((gF G 3 (i1) 2) = (gA G 88 0 (j)) ∧ (gF G 3 (i1) 8) = 5) ∧ (gA G 90 0 (j)) ≤ (gF G 3 (i1) 9) ∧ (gF G 3 (i1) 9) ≤ (gA G 91 0 (j))) (gF G 1 0 1) < (gA G 89 0 (j))) ∧ v = 0))) ∨ (¬ (0 ≤ k ∧ k ≤ 4) ∧ v = -1)) → P (some (vI v)) G) : PW l w M_X11_ofPromise (d + 3) 0 [some (vR 11 (0)), some (vI (j)), some (vI (k))] [] G P := by
  refine pw_aload r_11_ofPromise_0 rfl ?_
  refine pw_getR r_11_ofPromise_1 fs_11_2 (by decide) ?_
  refine pw_iload r_11_ofPromise_4 rfl ?_
  refine pw_iload r_11_ofPromise_5 rfl ?_
  refine pw_callV (av := [vI (j), vI (k)]) (st := []) (ls0 := [some (vR 9 (0)), some (vI (j)), some (vI (k))]) r_11_ofPromise_6 rfl rfl rfl (Nat.le_refl _) ?_
  refine sp_X9_tellPromise (by first | assumption | exact hp | omega) (by first | assumption | exact hsz | omega) (by first | assumption | exact hpr | omega) ?_ ?_
  · skip
    intro q1
    refine pw_iret r_11_ofPromise_9 rfl (Nat.le_refl _) ⟨rfl, ?_⟩
    exact h1 q1
  · skip
    intro q1 v q2
    refine pw_iret r_11_ofPromise_9 rfl (Nat.le_refl _) ⟨rfl, ?_⟩
    exact h2 q1 v q2
set_option maxRecDepth 10000 in
theorem sp_X11_broken {l : Launch} {w : Wo} {d : Nat} {G : PH} {P : Option PV → PH → Prop} {z d0 : Int} (hp : ∀ i, 0 ≤ i → i < (gF G 1 0 1) → gD G 30 0 i = some (3, i)) (hsz : 0 ≤ (gF G 1 0 1) ∧ (gF G 1 0 1) ≤ 150) (hpr : 0 ≤ (gF G 9 0 2) ∧ (gF G 9 0 2) ≤ 40) (h1 : ¬ ((0 ≤ z ∧ z ≤ 1) ∧ 0 ≤ d0 ∧ d0 ≤ (gF G 1 0 2)) → P (some (vI (-1))) G) (h2 : ((0 ≤ z ∧ z ≤ 1) ∧ 0 ≤ d0 ∧ d0 ≤ (gF G 1 0 2)) → P (some (vI (cnt (fun i0 => (gA G 88 0 (i0)) = z ∧ ((gA G 91 0 (i0)) < d0 ∧ cnt (fun i1 => ((gF G 3 (i1) 2) = (gA G 88 0 (i0)) ∧ (gF G 3 (i1) 8) = 5) ∧ (gA G 90 0 (i0)) ≤ (gF G 3 (i1) 9) ∧ (gF G 3 (i1) 9) ≤ (gA G 91 0 (i0))) (gF G 1 0 1) < (gA G 89 0 (i0)))) (gF G 9 0 2)))) G) : PW l w M_X11_broken (d + 4) 0 [some (vR 11 (0)), some (vI (z)), some (vI (d0))] [] G P := by
  refine pw_aload r_11_broken_0 rfl ?_
  refine pw_getR r_11_broken_1 fs_11_2 (by decide) ?_
  refine pw_iload r_11_broken_4 rfl ?_
  refine pw_iload r_11_broken_5 rfl ?_
  refine pw_callV (av := [vI (z), vI (d0)]) (st := []) (ls0 := [some (vR 9 (0)), some (vI (z)), some (vI (d0))]) r_11_broken_6 rfl rfl rfl (Nat.le_refl _) ?_
  refine sp_X9_tellBroken (by first | assumption | exact hp | omega) (by first | assumption | exact hsz | omega) (by first | assumption | exact hpr | omega) ?_ ?_
  · skip
    intro q1
    refine pw_iret r_11_broken_9 rfl (Nat.le_refl _) ⟨rfl, ?_⟩
    exact h1 q1
  · skip
    intro q1
    refine pw_iret r_11_broken_9 rfl (Nat.le_refl _) ⟨rfl, ?_⟩
    exact h2 q1
