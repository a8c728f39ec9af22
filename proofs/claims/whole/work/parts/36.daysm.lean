/-! the days of the reference, as functions of the cells -/
def arvM (G : PH) (p : Int) : PH := if (gA G 206 0 (p)) = 1 ∧ (gA G 214 0 (p)) = (gF G 12 0 0) then (if (gA G 207 0 (p)) < 16 then (if (gF G 12 0 22) < 400 then (sF (sA (sA (sA (sA (sA (sA (sA (sA G 206 0 (p) (0)) 207 0 (p) ((gA G 207 0 (p)))) 213 0 (p) ((gF G 12 0 0))) 214 0 (p) (-1)) 215 0 ((gF G 12 0 22)) (p)) 216 0 ((gF G 12 0 22)) ((gA G 207 0 (p)))) 217 0 ((gF G 12 0 22)) ((gF G 12 0 0))) 218 0 ((gF G 12 0 22)) (-1)) 12 0 22 ((gF G 12 0 22) + 1)) else G) else if (gA G 207 0 (p)) = 16 then (sA (sA (sA G 206 0 (p) (2)) 213 0 (p) ((gF G 12 0 0))) 214 0 (p) (-1)) else (sA (sA (sA G 206 0 (p) (3)) 213 0 (p) ((gF G 12 0 0))) 214 0 (p) (-1))) else G
noncomputable def worM (G : PH) (p : Int) : PH := if ((gA G 206 0 (p)) ≤ 1 ∧ 1 ≤ (gA G 210 0 (p)) ∧ (gA G 210 0 (p)) ≤ 9) ∧ 0 < (gA G 203 0 ((gA G 210 0 (p)))) ∧ (gA G 203 0 ((gA G 210 0 (p)))) ≤ (gF G 12 0 0) - (gA G 211 0 (p)) then (if (gA G 210 0 (p)) = 9 then (if (gA G 206 0 (p)) = 0 then (sA (sA (sA (uA (sA (sA G 210 0 p ((gA G 210 0 (p)) + 1)) 211 0 p (gF G 12 0 0)) 218 0 (filF (fun j0 => (gA G 215 0 (j0)) = p ∧ (gA G 218 0 (j0)) < 0) (fun j0 => (gF G 12 0 0)) (gA G 218 0) (gF G 12 0 22))) 206 0 (p) (8)) 213 0 (p) ((gF G 12 0 0))) 214 0 (p) (-1)) else (sA (sA (sA (sA (sA G 210 0 p ((gA G 210 0 (p)) + 1)) 211 0 p (gF G 12 0 0)) 206 0 (p) (8)) 213 0 (p) ((gF G 12 0 0))) 214 0 (p) (-1))) else (sA (sA G 210 0 p ((gA G 210 0 (p)) + 1)) 211 0 p (gF G 12 0 0))) else G
def arvsM (G : PH) (n : Int) : PH := iterI (fun i H => arvM H i) n G
noncomputable def worsM (G : PH) (n : Int) : PH := iterI (fun i H => worM H i) n G
def nextM (G : PH) : PH := sF G 12 0 0 ((gF G 12 0 0) + 1)
noncomputable def dayM (G : PH) : PH := worsM (arvsM (nextM G) (gF G 12 0 17)) (gF G 12 0 17)
noncomputable def daysM (G : PH) (n : Int) : PH := iterI (fun _ H => dayM H) n G
def roomM (G : PH) (p : Int) : Prop := (gA G 206 0 (p)) = 1 → (gA G 214 0 (p)) = (gF G 12 0 0) → (gA G 207 0 (p)) < 16 → (gF G 12 0 22) < 400
theorem arvsM_s {G : PH} {i : Int} (h : 0 ≤ i) : arvsM G (i + 1) = arvM (arvsM G i) i := iter_s _ h _
theorem worsM_s {G : PH} {i : Int} (h : 0 ≤ i) : worsM G (i + 1) = worM (worsM G i) i := iter_s _ h _
theorem daysM_s {G : PH} {i : Int} (h : 0 ≤ i) : daysM G (i + 1) = dayM (daysM G i) := iter_s _ h _
/-- what the reference's steps need, and keep -/
def MR (G : PH) : Prop := (0 ≤ (gF G 12 0 17) ∧ (gF G 12 0 17) ≤ 150) ∧ (0 ≤ (gF G 12 0 22) ∧ (gF G 12 0 22) ≤ 400) ∧ (0 ≤ (gF G 12 0 0) ∧ (gF G 12 0 0) ≤ 600) ∧ (∀ i, 0 ≤ i → i < (gF G 12 0 17) → 0 ≤ (gA G 211 0 (i)) ∧ (gA G 211 0 (i)) ≤ 600)
theorem arvM_same (G : PH) (p : Int) : gF (arvM G p) 12 0 17 = (gF G 12 0 17) ∧ gF (arvM G p) 12 0 0 = (gF G 12 0 0) := by
  unfold arvM
  repeat' split
  all_goals exact ⟨rfl, rfl⟩
theorem worM_same (G : PH) (p : Int) : gF (worM G p) 12 0 17 = (gF G 12 0 17) ∧ gF (worM G p) 12 0 0 = (gF G 12 0 0) := by
  unfold worM
  repeat' split
  all_goals exact ⟨rfl, rfl⟩
theorem MR_arv {G : PH} {p : Int} (h : MR G) : MR (arvM G p) := by
  obtain ⟨h1, h2, h3, h4⟩ := h
  unfold arvM
  split
  · split
    · split
      · exact ⟨h1, (show 0 ≤ (gF G 12 0 22) + 1 ∧ (gF G 12 0 22) + 1 ≤ 400 by omega), h3, h4⟩
      · exact ⟨h1, h2, h3, h4⟩
    · split
      · exact ⟨h1, h2, h3, h4⟩
      · exact ⟨h1, h2, h3, h4⟩
  · exact ⟨h1, h2, h3, h4⟩
theorem MR_wor {G : PH} {p : Int} (h : MR G) : MR (worM G p) := by
  obtain ⟨h1, h2, h3, h4⟩ := h
  have k4 : ∀ i, 0 ≤ i → i < (gF G 12 0 17) → 0 ≤ gA (sA (sA G 210 0 p ((gA G 210 0 (p)) + 1)) 211 0 p (gF G 12 0 0)) 211 0 i ∧ gA (sA (sA G 210 0 p ((gA G 210 0 (p)) + 1)) 211 0 p (gF G 12 0 0)) 211 0 i ≤ 600 := fun i a b => by
    by_cases e : i = p
    · subst e
      have e5 : gA (sA (sA G 210 0 i ((gA G 210 0 (i)) + 1)) 211 0 i (gF G 12 0 0)) 211 0 i = (gF G 12 0 0) := by simp (disch := decide) [gA_sA]
      rw [e5]
      exact h3
    · have q := h4 i a b
      have e5 : gA (sA (sA G 210 0 p ((gA G 210 0 (p)) + 1)) 211 0 p (gF G 12 0 0)) 211 0 i = (gA G 211 0 (i)) := by simp (disch := decide) [gA_sA, e]
      rw [e5]
      exact q
  unfold worM
  split
  · split
    · split
      · exact ⟨h1, h2, h3, k4⟩
      · exact ⟨h1, h2, h3, k4⟩
    · exact ⟨h1, h2, h3, k4⟩
  · exact ⟨h1, h2, h3, h4⟩
theorem arvsM_ok {G : PH} {n : Int} (hn : 0 ≤ n) (h : MR G) : MR (arvsM G n) ∧ gF (arvsM G n) 12 0 17 = (gF G 12 0 17) ∧ gF (arvsM G n) 12 0 0 = (gF G 12 0 0) :=
  iter_inv (p := fun H => MR H ∧ gF H 12 0 17 = (gF G 12 0 17) ∧ gF H 12 0 0 = (gF G 12 0 0)) hn ⟨h, rfl, rfl⟩ (fun i s _ _ q => ⟨MR_arv q.1, (arvM_same s i).1.trans q.2.1, (arvM_same s i).2.trans q.2.2⟩)
theorem worsM_ok {G : PH} {n : Int} (hn : 0 ≤ n) (h : MR G) : MR (worsM G n) ∧ gF (worsM G n) 12 0 17 = (gF G 12 0 17) ∧ gF (worsM G n) 12 0 0 = (gF G 12 0 0) :=
  iter_inv (p := fun H => MR H ∧ gF H 12 0 17 = (gF G 12 0 17) ∧ gF H 12 0 0 = (gF G 12 0 0)) hn ⟨h, rfl, rfl⟩ (fun i s _ _ q => ⟨MR_wor q.1, (worM_same s i).1.trans q.2.1, (worM_same s i).2.trans q.2.2⟩)
theorem MR_next {G : PH} (h : MR G) (hd : (gF G 12 0 0) < 600) : MR (nextM G) :=
  ⟨h.1, h.2.1, (show 0 ≤ (gF G 12 0 0) + 1 ∧ (gF G 12 0 0) + 1 ≤ 600 by have := h.2.2.1; omega), h.2.2.2⟩
theorem dayM_ok {G : PH} (h : MR G) (hd : (gF G 12 0 0) < 600) : MR (dayM G) ∧ gF (dayM G) 12 0 17 = (gF G 12 0 17) ∧ gF (dayM G) 12 0 0 = (gF G 12 0 0) + 1 := by
  have a := arvsM_ok h.1.1 (MR_next h hd)
  have b := worsM_ok h.1.1 a.1
  exact ⟨b.1, b.2.1.trans a.2.1, b.2.2.trans a.2.2⟩
theorem daysM_ok {G : PH} {n : Int} (hn : 0 ≤ n) (h : MR G) (hd : (gF G 12 0 0) + n ≤ 600) : MR (daysM G n) ∧ gF (daysM G n) 12 0 17 = (gF G 12 0 17) ∧ gF (daysM G n) 12 0 0 = (gF G 12 0 0) + n := by
  refine nat_ind (p := fun m => m ≤ n → MR (daysM G m) ∧ gF (daysM G m) 12 0 17 = (gF G 12 0 17) ∧ gF (daysM G m) 12 0 0 = (gF G 12 0 0) + m) (fun _ => ⟨h, rfl, (Int.add_zero _).symm⟩) (fun m hm ih hmn => ?_) n hn (Int.le_refl _)
  have q := ih (by omega)
  have r := dayM_ok q.1 (by omega)
  rw [daysM_s hm]
  exact ⟨r.1, r.2.1.trans q.2.1, by rw [r.2.2]; omega⟩


theorem r_12_days_0 : RL M_X12_days 0 1 1 := Or.inl ⟨1, by decide +kernel, rfl, rfl⟩
theorem r_12_days_1 : RC M_X12_days 1 1 2 := ⟨⟨by decide, by decide⟩, Or.inl ⟨by decide +kernel, rfl⟩⟩
theorem r_12_days_2 : RC M_X12_days 2 60 4 := ⟨⟨by decide, by decide⟩, Or.inr (Or.inl ⟨by decide +kernel, by decide, rfl⟩)⟩
theorem r_12_days_4 : RKs M_X12_days M_X12_within 4 3 7 := ⟨240, by decide +kernel, Or.inl wd_m12_240, ok_M_X12_within, rfl⟩
theorem r_12_days_7 : RB M_X12_days 7 (.ifCond .eq) 22 10 := ⟨15, by decide +kernel, rfl, rfl⟩
theorem r_12_days_22 : RC M_X12_days 22 (-1) 23 := ⟨⟨by decide, by decide⟩, Or.inl ⟨by decide +kernel, rfl⟩⟩
theorem r_12_days_23 : RW M_X12_days 23 .ireturn 24 1 := ⟨by decide +kernel, rfl⟩
theorem r_12_days_10 : RA M_X12_days 10 0 11 := Or.inl ⟨0, by decide +kernel, rfl, rfl⟩
theorem r_12_days_11 : RG M_X12_days 11 12 0 14 := ⟨268, _, by decide +kernel, rfl, by decide, wd_f12_268, rfl, rfl⟩
theorem r_12_days_14 : RL M_X12_days 14 1 15 := Or.inl ⟨1, by decide +kernel, rfl, rfl⟩
theorem r_12_days_15 : RW M_X12_days 15 .iadd 16 1 := ⟨by decide +kernel, rfl⟩
theorem r_12_days_16 : RC M_X12_days 16 600 19 := ⟨⟨by decide, by decide⟩, Or.inr (Or.inr (Or.inl ⟨by decide +kernel, by decide, rfl⟩))⟩
theorem r_12_days_19 : RB M_X12_days 19 (.if_icmp .le) 24 22 := ⟨5, by decide +kernel, rfl, rfl⟩
theorem r_12_days_24 : RC M_X12_days 24 0 25 := ⟨⟨by decide, by decide⟩, Or.inl ⟨by decide +kernel, rfl⟩⟩
theorem r_12_days_25 : RS M_X12_days 25 2 26 := ⟨by decide, Or.inl ⟨2, by decide +kernel, rfl, rfl⟩⟩
theorem r_12_days_26 : RL M_X12_days 26 2 27 := Or.inl ⟨2, by decide +kernel, rfl, rfl⟩
theorem r_12_days_27 : RL M_X12_days 27 1 28 := Or.inl ⟨1, by decide +kernel, rfl, rfl⟩
theorem r_12_days_28 : RB M_X12_days 28 (.if_icmp .ge) 242 31 := ⟨214, by decide +kernel, rfl, rfl⟩
theorem r_12_days_242 : RA M_X12_days 242 0 243 := Or.inl ⟨0, by decide +kernel, rfl, rfl⟩
theorem r_12_days_243 : RG M_X12_days 243 12 0 246 := ⟨268, _, by decide +kernel, rfl, by decide, wd_f12_268, rfl, rfl⟩
theorem r_12_days_246 : RW M_X12_days 246 .ireturn 247 1 := ⟨by decide +kernel, rfl⟩
theorem r_12_days_31 : RA M_X12_days 31 0 32 := Or.inl ⟨0, by decide +kernel, rfl, rfl⟩
theorem r_12_days_32 : RW M_X12_days 32 .dup 33 1 := ⟨by decide +kernel, rfl⟩
theorem r_12_days_33 : RG M_X12_days 33 12 0 36 := ⟨268, _, by decide +kernel, rfl, by decide, wd_f12_268, rfl, rfl⟩
theorem r_12_days_36 : RC M_X12_days 36 1 37 := ⟨⟨by decide, by decide⟩, Or.inl ⟨by decide +kernel, rfl⟩⟩
theorem r_12_days_37 : RW M_X12_days 37 .iadd 38 1 := ⟨by decide +kernel, rfl⟩
theorem r_12_days_38 : RP M_X12_days 38 12 0 41 := ⟨268, _, by decide +kernel, rfl, by decide, wd_f12_268, rfl, Or.inl rfl, rfl⟩
theorem r_12_days_41 : RC M_X12_days 41 0 42 := ⟨⟨by decide, by decide⟩, Or.inl ⟨by decide +kernel, rfl⟩⟩
theorem r_12_days_42 : RS M_X12_days 42 3 43 := ⟨by decide, Or.inl ⟨3, by decide +kernel, rfl, rfl⟩⟩
theorem r_12_days_43 : RL M_X12_days 43 3 44 := Or.inl ⟨3, by decide +kernel, rfl, rfl⟩
theorem r_12_days_44 : RA M_X12_days 44 0 45 := Or.inl ⟨0, by decide +kernel, rfl, rfl⟩
theorem r_12_days_45 : RG M_X12_days 45 12 17 48 := ⟨251, _, by decide +kernel, rfl, by decide, wd_f12_251, rfl, rfl⟩
theorem r_12_days_48 : RB M_X12_days 48 (.if_icmp .ge) 126 51 := ⟨78, by decide +kernel, rfl, rfl⟩
theorem r_12_days_126 : RC M_X12_days 126 0 127 := ⟨⟨by decide, by decide⟩, Or.inl ⟨by decide +kernel, rfl⟩⟩
theorem r_12_days_127 : RS M_X12_days 127 3 128 := ⟨by decide, Or.inl ⟨3, by decide +kernel, rfl, rfl⟩⟩
theorem r_12_days_128 : RL M_X12_days 128 3 129 := Or.inl ⟨3, by decide +kernel, rfl, rfl⟩
theorem r_12_days_129 : RA M_X12_days 129 0 130 := Or.inl ⟨0, by decide +kernel, rfl, rfl⟩
theorem r_12_days_130 : RG M_X12_days 130 12 17 133 := ⟨251, _, by decide +kernel, rfl, by decide, wd_f12_251, rfl, rfl⟩
theorem r_12_days_133 : RB M_X12_days 133 (.if_icmp .ge) 236 136 := ⟨103, by decide +kernel, rfl, rfl⟩
theorem r_12_days_236 : RI M_X12_days 236 2 1 239 := ⟨by decide, by decide +kernel, rfl⟩
theorem r_12_days_239 : RB M_X12_days 239 .goto 26 242 := ⟨(-213), by decide +kernel, rfl, rfl⟩
theorem r_12_days_136 : RA M_X12_days 136 0 137 := Or.inl ⟨0, by decide +kernel, rfl, rfl⟩
theorem r_12_days_137 : RG M_X12_days 137 12 12 140 := ⟨40, _, by decide +kernel, rfl, by decide, wd_f12_40, rfl, rfl⟩
theorem r_12_days_140 : RL M_X12_days 140 3 141 := Or.inl ⟨3, by decide +kernel, rfl, rfl⟩
theorem r_12_days_141 : RW M_X12_days 141 .iaload 142 1 := ⟨by decide +kernel, rfl⟩
theorem r_12_days_142 : RS M_X12_days 142 4 144 := ⟨by decide, Or.inr ⟨by decide +kernel, rfl⟩⟩
theorem r_12_days_144 : RA M_X12_days 144 0 145 := Or.inl ⟨0, by decide +kernel, rfl, rfl⟩
theorem r_12_days_145 : RG M_X12_days 145 12 8 148 := ⟨28, _, by decide +kernel, rfl, by decide, wd_f12_28, rfl, rfl⟩
theorem r_12_days_148 : RL M_X12_days 148 3 149 := Or.inl ⟨3, by decide +kernel, rfl, rfl⟩
theorem r_12_days_149 : RW M_X12_days 149 .iaload 150 1 := ⟨by decide +kernel, rfl⟩
theorem r_12_days_150 : RC M_X12_days 150 1 151 := ⟨⟨by decide, by decide⟩, Or.inl ⟨by decide +kernel, rfl⟩⟩
theorem r_12_days_151 : RB M_X12_days 151 (.if_icmp .gt) 230 154 := ⟨79, by decide +kernel, rfl, rfl⟩
theorem r_12_days_230 : RI M_X12_days 230 3 1 233 := ⟨by decide, by decide +kernel, rfl⟩
theorem r_12_days_233 : RB M_X12_days 233 .goto 128 236 := ⟨(-105), by decide +kernel, rfl, rfl⟩
theorem r_12_days_154 : RL M_X12_days 154 4 156 := Or.inr ⟨by decide +kernel, rfl⟩
theorem r_12_days_156 : RC M_X12_days 156 1 157 := ⟨⟨by decide, by decide⟩, Or.inl ⟨by decide +kernel, rfl⟩⟩
theorem r_12_days_157 : RC M_X12_days 157 9 159 := ⟨⟨by decide, by decide⟩, Or.inr (Or.inl ⟨by decide +kernel, by decide, rfl⟩)⟩
theorem r_12_days_159 : RKs M_X12_days M_X12_within 159 3 162 := ⟨240, by decide +kernel, Or.inl wd_m12_240, ok_M_X12_within, rfl⟩
theorem r_12_days_162 : RB M_X12_days 162 (.ifCond .eq) 230 165 := ⟨68, by decide +kernel, rfl, rfl⟩
theorem r_12_days_165 : RA M_X12_days 165 0 166 := Or.inl ⟨0, by decide +kernel, rfl, rfl⟩
theorem r_12_days_166 : RG M_X12_days 166 12 5 169 := ⟨19, _, by decide +kernel, rfl, by decide, wd_f12_19, rfl, rfl⟩
theorem r_12_days_169 : RL M_X12_days 169 4 171 := Or.inr ⟨by decide +kernel, rfl⟩
theorem r_12_days_171 : RW M_X12_days 171 .iaload 172 1 := ⟨by decide +kernel, rfl⟩
theorem r_12_days_172 : RB M_X12_days 172 (.ifCond .le) 230 175 := ⟨58, by decide +kernel, rfl, rfl⟩
theorem r_12_days_175 : RA M_X12_days 175 0 176 := Or.inl ⟨0, by decide +kernel, rfl, rfl⟩
theorem r_12_days_176 : RG M_X12_days 176 12 0 179 := ⟨268, _, by decide +kernel, rfl, by decide, wd_f12_268, rfl, rfl⟩
theorem r_12_days_179 : RA M_X12_days 179 0 180 := Or.inl ⟨0, by decide +kernel, rfl, rfl⟩
theorem r_12_days_180 : RG M_X12_days 180 12 13 183 := ⟨43, _, by decide +kernel, rfl, by decide, wd_f12_43, rfl, rfl⟩
theorem r_12_days_183 : RL M_X12_days 183 3 184 := Or.inl ⟨3, by decide +kernel, rfl, rfl⟩
theorem r_12_days_184 : RW M_X12_days 184 .iaload 185 1 := ⟨by decide +kernel, rfl⟩
theorem r_12_days_185 : RW M_X12_days 185 .isub 186 1 := ⟨by decide +kernel, rfl⟩
theorem r_12_days_186 : RA M_X12_days 186 0 187 := Or.inl ⟨0, by decide +kernel, rfl, rfl⟩
theorem r_12_days_187 : RG M_X12_days 187 12 5 190 := ⟨19, _, by decide +kernel, rfl, by decide, wd_f12_19, rfl, rfl⟩
theorem r_12_days_190 : RL M_X12_days 190 4 192 := Or.inr ⟨by decide +kernel, rfl⟩
theorem r_12_days_192 : RW M_X12_days 192 .iaload 193 1 := ⟨by decide +kernel, rfl⟩
theorem r_12_days_193 : RB M_X12_days 193 (.if_icmp .lt) 230 196 := ⟨37, by decide +kernel, rfl, rfl⟩
theorem r_12_days_196 : RA M_X12_days 196 0 197 := Or.inl ⟨0, by decide +kernel, rfl, rfl⟩
theorem r_12_days_197 : RG M_X12_days 197 12 12 200 := ⟨40, _, by decide +kernel, rfl, by decide, wd_f12_40, rfl, rfl⟩
theorem r_12_days_200 : RL M_X12_days 200 3 201 := Or.inl ⟨3, by decide +kernel, rfl, rfl⟩
theorem r_12_days_201 : RL M_X12_days 201 4 203 := Or.inr ⟨by decide +kernel, rfl⟩
theorem r_12_days_203 : RC M_X12_days 203 1 204 := ⟨⟨by decide, by decide⟩, Or.inl ⟨by decide +kernel, rfl⟩⟩
theorem r_12_days_204 : RW M_X12_days 204 .iadd 205 1 := ⟨by decide +kernel, rfl⟩
theorem r_12_days_205 : RW M_X12_days 205 .iastore 206 1 := ⟨by decide +kernel, rfl⟩
theorem r_12_days_206 : RA M_X12_days 206 0 207 := Or.inl ⟨0, by decide +kernel, rfl, rfl⟩
theorem r_12_days_207 : RG M_X12_days 207 12 13 210 := ⟨43, _, by decide +kernel, rfl, by decide, wd_f12_43, rfl, rfl⟩
theorem r_12_days_210 : RL M_X12_days 210 3 211 := Or.inl ⟨3, by decide +kernel, rfl, rfl⟩
theorem r_12_days_211 : RA M_X12_days 211 0 212 := Or.inl ⟨0, by decide +kernel, rfl, rfl⟩
theorem r_12_days_212 : RG M_X12_days 212 12 0 215 := ⟨268, _, by decide +kernel, rfl, by decide, wd_f12_268, rfl, rfl⟩
theorem r_12_days_215 : RW M_X12_days 215 .iastore 216 1 := ⟨by decide +kernel, rfl⟩
theorem r_12_days_216 : RL M_X12_days 216 4 218 := Or.inr ⟨by decide +kernel, rfl⟩
theorem r_12_days_218 : RC M_X12_days 218 9 220 := ⟨⟨by decide, by decide⟩, Or.inr (Or.inl ⟨by decide +kernel, by decide, rfl⟩)⟩
theorem r_12_days_220 : RB M_X12_days 220 (.if_icmp .ne) 230 223 := ⟨10, by decide +kernel, rfl, rfl⟩
theorem r_12_days_223 : RA M_X12_days 223 0 224 := Or.inl ⟨0, by decide +kernel, rfl, rfl⟩
theorem r_12_days_224 : RL M_X12_days 224 3 225 := Or.inl ⟨3, by decide +kernel, rfl, rfl⟩
theorem r_12_days_225 : RC M_X12_days 225 8 227 := ⟨⟨by decide, by decide⟩, Or.inr (Or.inl ⟨by decide +kernel, by decide, rfl⟩)⟩
theorem r_12_days_227 : RKv M_X12_days M_X12_becomes 227 2 12 230 := ⟨275, by decide +kernel, wd_m12_275, ok_M_X12_becomes, wd_s12_becomes, rfl⟩
theorem r_12_days_51 : RA M_X12_days 51 0 52 := Or.inl ⟨0, by decide +kernel, rfl, rfl⟩
theorem r_12_days_52 : RG M_X12_days 52 12 8 55 := ⟨28, _, by decide +kernel, rfl, by decide, wd_f12_28, rfl, rfl⟩
theorem r_12_days_55 : RL M_X12_days 55 3 56 := Or.inl ⟨3, by decide +kernel, rfl, rfl⟩
theorem r_12_days_56 : RW M_X12_days 56 .iaload 57 1 := ⟨by decide +kernel, rfl⟩
theorem r_12_days_57 : RC M_X12_days 57 1 58 := ⟨⟨by decide, by decide⟩, Or.inl ⟨by decide +kernel, rfl⟩⟩
theorem r_12_days_58 : RB M_X12_days 58 (.if_icmp .ne) 120 61 := ⟨62, by decide +kernel, rfl, rfl⟩
theorem r_12_days_120 : RI M_X12_days 120 3 1 123 := ⟨by decide, by decide +kernel, rfl⟩
theorem r_12_days_123 : RB M_X12_days 123 .goto 43 126 := ⟨(-80), by decide +kernel, rfl, rfl⟩
theorem r_12_days_61 : RA M_X12_days 61 0 62 := Or.inl ⟨0, by decide +kernel, rfl, rfl⟩
theorem r_12_days_62 : RG M_X12_days 62 12 16 65 := ⟨52, _, by decide +kernel, rfl, by decide, wd_f12_52, rfl, rfl⟩
theorem r_12_days_65 : RL M_X12_days 65 3 66 := Or.inl ⟨3, by decide +kernel, rfl, rfl⟩
theorem r_12_days_66 : RW M_X12_days 66 .iaload 67 1 := ⟨by decide +kernel, rfl⟩
theorem r_12_days_67 : RA M_X12_days 67 0 68 := Or.inl ⟨0, by decide +kernel, rfl, rfl⟩
theorem r_12_days_68 : RG M_X12_days 68 12 0 71 := ⟨268, _, by decide +kernel, rfl, by decide, wd_f12_268, rfl, rfl⟩
theorem r_12_days_71 : RB M_X12_days 71 (.if_icmp .ne) 120 74 := ⟨49, by decide +kernel, rfl, rfl⟩
theorem r_12_days_74 : RA M_X12_days 74 0 75 := Or.inl ⟨0, by decide +kernel, rfl, rfl⟩
theorem r_12_days_75 : RG M_X12_days 75 12 9 78 := ⟨31, _, by decide +kernel, rfl, by decide, wd_f12_31, rfl, rfl⟩
theorem r_12_days_78 : RL M_X12_days 78 3 79 := Or.inl ⟨3, by decide +kernel, rfl, rfl⟩
theorem r_12_days_79 : RW M_X12_days 79 .iaload 80 1 := ⟨by decide +kernel, rfl⟩
theorem r_12_days_80 : RC M_X12_days 80 16 82 := ⟨⟨by decide, by decide⟩, Or.inr (Or.inl ⟨by decide +kernel, by decide, rfl⟩)⟩
theorem r_12_days_82 : RB M_X12_days 82 (.if_icmp .ge) 99 85 := ⟨17, by decide +kernel, rfl, rfl⟩
theorem r_12_days_99 : RA M_X12_days 99 0 100 := Or.inl ⟨0, by decide +kernel, rfl, rfl⟩
theorem r_12_days_100 : RL M_X12_days 100 3 101 := Or.inl ⟨3, by decide +kernel, rfl, rfl⟩
theorem r_12_days_101 : RA M_X12_days 101 0 102 := Or.inl ⟨0, by decide +kernel, rfl, rfl⟩
theorem r_12_days_102 : RG M_X12_days 102 12 9 105 := ⟨31, _, by decide +kernel, rfl, by decide, wd_f12_31, rfl, rfl⟩
theorem r_12_days_105 : RL M_X12_days 105 3 106 := Or.inl ⟨3, by decide +kernel, rfl, rfl⟩
theorem r_12_days_106 : RW M_X12_days 106 .iaload 107 1 := ⟨by decide +kernel, rfl⟩
theorem r_12_days_107 : RC M_X12_days 107 16 109 := ⟨⟨by decide, by decide⟩, Or.inr (Or.inl ⟨by decide +kernel, by decide, rfl⟩)⟩
theorem r_12_days_109 : RB M_X12_days 109 (.if_icmp .ne) 116 112 := ⟨7, by decide +kernel, rfl, rfl⟩
theorem r_12_days_116 : RC M_X12_days 116 3 117 := ⟨⟨by decide, by decide⟩, Or.inl ⟨by decide +kernel, rfl⟩⟩
theorem r_12_days_117 : RKv M_X12_days M_X12_becomes 117 2 12 120 := ⟨275, by decide +kernel, wd_m12_275, ok_M_X12_becomes, wd_s12_becomes, rfl⟩
theorem r_12_days_112 : RC M_X12_days 112 2 113 := ⟨⟨by decide, by decide⟩, Or.inl ⟨by decide +kernel, rfl⟩⟩
theorem r_12_days_113 : RB M_X12_days 113 .goto 117 116 := ⟨4, by decide +kernel, rfl, rfl⟩
theorem r_12_days_85 : RA M_X12_days 85 0 86 := Or.inl ⟨0, by decide +kernel, rfl, rfl⟩
theorem r_12_days_86 : RL M_X12_days 86 3 87 := Or.inl ⟨3, by decide +kernel, rfl, rfl⟩
theorem r_12_days_87 : RA M_X12_days 87 0 88 := Or.inl ⟨0, by decide +kernel, rfl, rfl⟩
theorem r_12_days_88 : RG M_X12_days 88 12 9 91 := ⟨31, _, by decide +kernel, rfl, by decide, wd_f12_31, rfl, rfl⟩
theorem r_12_days_91 : RL M_X12_days 91 3 92 := Or.inl ⟨3, by decide +kernel, rfl, rfl⟩
theorem r_12_days_92 : RW M_X12_days 92 .iaload 93 1 := ⟨by decide +kernel, rfl⟩
theorem r_12_days_93 : RKv M_X12_days M_X12_enters 93 2 12 96 := ⟨271, by decide +kernel, wd_m12_271, ok_M_X12_enters, wd_s12_enters, rfl⟩
theorem r_12_days_96 : RB M_X12_days 96 .goto 120 99 := ⟨24, by decide +kernel, rfl, rfl⟩
set_option maxRecDepth 10000 in
theorem sp_X12_days {l : Launch} {w : Wo} {d : Nat} {G : PH} {P : Option PV → PH → Prop} {n : Int} (hmr : MR G) (hrm : (gF G 12 0 0) + n ≤ 600 → ∀ k i, 0 ≤ k → k < n → 0 ≤ i → i < (gF G 12 0 17) → roomM (arvsM (nextM (daysM G k)) i) i) (h1 : ¬ ((1 ≤ n ∧ n ≤ 60) ∧ (gF G 12 0 0) + n ≤ 600) → P (some (vI (-1))) G) (h2 : (1 ≤ n ∧ n ≤ 60) → (gF G 12 0 0) + n ≤ 600 → P (some (vI (gF (daysM G n) 12 0 0))) (daysM G n)) : PW l w M_X12_days (d + 3) 0 [some (vR 12 (0)), some (vI (n)), none, none, none] [] G P := by
  have hsz : 0 ≤ (gF G 12 0 17) ∧ (gF G 12 0 17) ≤ 150 := hmr.1
  have hdy : 0 ≤ (gF G 12 0 0) ∧ (gF G 12 0 0) ≤ 600 := hmr.2.2.1
  refine pw_iload r_12_days_0 rfl ?_
  refine pw_const r_12_days_1 ?_
  refine pw_const r_12_days_2 ?_
  refine pw_callS (av := [vI (n), vI (1), vI (60)]) (st := []) (ls0 := [some (vI (n)), some (vI (1)), some (vI (60))]) r_12_days_4 rfl rfl rfl (Nat.le_refl _) ?_
  refine sp_X12_within  ?_
  refine pw_if_eqB r_12_days_7 (fun h07 => ?_) (fun h07 => ?_)
  · skip
    refine pw_const r_12_days_22 ?_
    refine pw_iret r_12_days_23 rfl (Nat.le_refl _) ⟨rfl, ?_⟩
    first | exact h1 (by omega) | exact h2 hn1.1 hn1.2
  · skip
    refine pw_aload r_12_days_10 rfl ?_
    refine pw_getI r_12_days_11 fs_12_0 (by decide) ?_
    refine pw_iload r_12_days_14 rfl ?_
    refine pw_iadd r_12_days_15 (by omega) ?_
    refine pw_const r_12_days_16 ?_
    refine pw_icmp_le r_12_days_19 (fun h19 => ?_) (fun h19 => ?_)
    · skip
      refine pw_const r_12_days_24 ?_
      refine pw_istore (ls' := [some (vR 12 (0)), some (vI (n)), some (vI (0)), none, none]) r_12_days_25 rfl rfl ?_
      have L26 : ∀ (nF : Nat) (k : Int), (hk : 0 ≤ k ∧ k ≤ n) → (hn1 : (1 ≤ n ∧ n ≤ 60) ∧ (gF G 12 0 0) + n ≤ 600) → (n - k).toNat < nF → PW l w M_X12_days (d + 3) 26 [some (vR 12 (0)), some (vI (n)), some (vI (k)), none, none] [] (daysM G k) P := by
        intro nF
        induction nF with
        | zero => intro _ _ _ hM; exact absurd hM (Nat.not_lt_zero _)
        | succ nF ih26 =>
          intro k hk hn1 hM26
          have hck := daysM_ok hk.1 hmr (show (gF G 12 0 0) + k ≤ 600 by omega)
          have hc0 : MR (daysM G k) := hck.1
          have hs0 : gF (daysM G k) 12 0 17 = (gF G 12 0 17) := hck.2.1
          have hd0 : gF (daysM G k) 12 0 0 = (gF G 12 0 0) + k := hck.2.2
          have hdd : 0 ≤ gF (daysM G k) 12 0 0 ∧ gF (daysM G k) 12 0 0 ≤ 600 := hc0.2.2.1
          refine pw_iload r_12_days_26 rfl ?_
          refine pw_iload r_12_days_27 rfl ?_
          refine pw_icmp_ge r_12_days_28 (fun h28 => ?_) (fun h28 => ?_)
          · skip
            have ek : k = n := by omega
            subst ek
            refine pw_aload r_12_days_242 rfl ?_
            refine pw_getI r_12_days_243 fs_12_0 (by decide) ?_
            refine pw_iret r_12_days_246 rfl (Nat.le_refl _) ⟨rfl, ?_⟩
            first | exact h1 (by omega) | exact h2 hn1.1 hn1.2
          · skip
            have hkn : k < n := by omega
            refine pw_aload r_12_days_31 rfl ?_
            refine pw_dup r_12_days_32 rfl ?_
            refine pw_getI r_12_days_33 fs_12_0 (by decide) ?_
            refine pw_const r_12_days_36 ?_
            refine pw_iadd r_12_days_37 (by omega) ?_
            refine pw_putI r_12_days_38 (by decide +kernel) fs_12_0 (by decide) ?_
            refine pw_const r_12_days_41 ?_
            refine pw_istore (ls' := [some (vR 12 (0)), some (vI (n)), some (vI (k)), some (vI (0)), none]) r_12_days_42 rfl rfl ?_
            have L43 : ∀ (nF : Nat) (i : Int), (hi : 0 ≤ i ∧ i ≤ (gF (daysM G k) 12 0 17)) → ((gF (daysM G k) 12 0 17) - i).toNat < nF → PW l w M_X12_days (d + 3) 43 [some (vR 12 (0)), some (vI (n)), some (vI (k)), some (vI (i)), none] [] (arvsM (nextM (daysM G k) ) i) P := by
              intro nF
              induction nF with
              | zero => intro _ _ hM; exact absurd hM (Nat.not_lt_zero _)
              | succ nF ih43 =>
                intro i hi hM43
                have hca := arvsM_ok hi.1 (MR_next hc0 (by omega))
                have hc1 : MR (arvsM (nextM (daysM G k)) i) := hca.1
                have hs1 : gF (arvsM (nextM (daysM G k)) i) 12 0 17 = (gF (daysM G k) 12 0 17) := hca.2.1
                have ht1 : 0 ≤ gF (arvsM (nextM (daysM G k)) i) 12 0 22 ∧ gF (arvsM (nextM (daysM G k)) i) 12 0 22 ≤ 400 := hc1.2.1
                refine pw_iload r_12_days_43 rfl ?_
                refine pw_aload r_12_days_44 rfl ?_
                refine pw_getI r_12_days_45 fs_12_17 (by decide) ?_
                refine pw_icmp_ge r_12_days_48 (fun h48 => ?_) (fun h48 => ?_)
                · skip
                  have ei : i = (gF (daysM G k) 12 0 17) := by omega
                  subst ei
                  refine pw_eqG (G' := arvsM (nextM (daysM G k) ) (gF (daysM G k) 12 0 17)) (by first | rfl | (rw [uA_self]; done) | (rw [sA_uA]; done) | (rw [sA_eq]; done) | (simp (disch := decide) only [sA_uA, sA_uA_ne, uA_abs, uA_abs2, uA_uA]; done) | (simp (disch := decide) only [sA_eq, sA_uA, sA_uA_ne, uA_abs, uA_abs2, uA_uA]; done) | (refine PH_ext (fun _ _ _ => ?_) (fun _ _ _ => ?_) (fun _ _ _ => ?_) <;> simp only [gF_sF, gF_sA, gF_uA, gF_sD, gA_sF, gA_sA, gA_uA, gA_sD, gD_sF, gD_sA, gD_uA, gD_sD] <;> (repeat' split) <;> first | rfl | (exfalso; omega) | simp_all)) ?_
                  refine pw_const r_12_days_126 ?_
                  refine pw_istore (ls' := [some (vR 12 (0)), some (vI (n)), some (vI (k)), some (vI (0)), none]) r_12_days_127 rfl rfl ?_
                  have L128 : ∀ (nF : Nat) (j : Int), (hj : 0 ≤ j ∧ j ≤ (gF (daysM G k) 12 0 17)) → ((gF (daysM G k) 12 0 17) - j).toNat < nF → PW l w M_X12_days (d + 3) 128 [some (vR 12 (0)), some (vI (n)), some (vI (k)), some (vI (j)), none] [] (worsM (arvsM (nextM (daysM G k) ) (gF (daysM G k) 12 0 17)) j) P := by
                    intro nF
                    induction nF with
                    | zero => intro _ _ hM; exact absurd hM (Nat.not_lt_zero _)
                    | succ nF ih128 =>
                      intro j hj hM128
                      have hcb := worsM_ok hj.1 (arvsM_ok hc0.1.1 (MR_next hc0 (by omega))).1
                      have hc2 : MR (worsM (arvsM (nextM (daysM G k)) (gF (daysM G k) 12 0 17)) j) := hcb.1
                      have hs2 : gF (worsM (arvsM (nextM (daysM G k)) (gF (daysM G k) 12 0 17)) j) 12 0 17 = (gF (daysM G k) 12 0 17) := hcb.2.1.trans (arvsM_ok hc0.1.1 (MR_next hc0 (by omega))).2.1
                      have ht2 : 0 ≤ gF (worsM (arvsM (nextM (daysM G k)) (gF (daysM G k) 12 0 17)) j) 12 0 22 ∧ gF (worsM (arvsM (nextM (daysM G k)) (gF (daysM G k) 12 0 17)) j) 12 0 22 ≤ 400 := hc2.2.1
                      have hy2 : 0 ≤ gF (worsM (arvsM (nextM (daysM G k)) (gF (daysM G k) 12 0 17)) j) 12 0 0 ∧ gF (worsM (arvsM (nextM (daysM G k)) (gF (daysM G k) 12 0 17)) j) 12 0 0 ≤ 600 := hc2.2.2.1
                      refine pw_iload r_12_days_128 rfl ?_
                      refine pw_aload r_12_days_129 rfl ?_
                      refine pw_getI r_12_days_130 fs_12_17 (by decide) ?_
                      refine pw_icmp_ge r_12_days_133 (fun h133 => ?_) (fun h133 => ?_)
                      · skip
                        refine pw_iinc (b := 0) (ls' := [some (vR 12 (0)), some (vI (n)), some (vI ((k + 1))), some (vI (j)), none]) r_12_days_236 rfl rfl (by omega) rfl ?_
                        refine pw_goto r_12_days_239 ?_
                        refine pw_weakL (ls' := [some (vR 12 (0)), some (vI (n)), some (vI ((k + 1))), none, none]) (⟨rfl, ⟨rfl, ⟨rfl, trivial⟩⟩⟩) ?_
                        refine pw_eqG (G' := daysM G (k + 1)) (by rw [show j = (gF (daysM G k) 12 0 17) by omega]; first | exact (daysM_s hk.1).symm | exact daysM_s hk.1) ?_
                        exact ih26 ((k + 1)) (by omega) (hn1) (by omega)
                      · skip
                        refine pw_aload r_12_days_136 rfl ?_
                        refine pw_getR r_12_days_137 fs_12_12 (by decide) ?_
                        refine pw_iload r_12_days_140 rfl ?_
                        refine pw_iald r_12_days_141 sh210 (by omega) (by omega) ?_
                        refine pw_istore (ls' := [some (vR 12 (0)), some (vI (n)), some (vI (k)), some (vI (j)), some (vI (gA (worsM (arvsM (nextM (daysM G k) ) (gF (daysM G k) 12 0 17)) j) 210 (0) (j)))]) r_12_days_142 rfl rfl ?_
                        have hg2 : 0 ≤ gA (worsM (arvsM (nextM (daysM G k)) (gF (daysM G k) 12 0 17)) j) 211 0 (j) ∧ gA (worsM (arvsM (nextM (daysM G k)) (gF (daysM G k) 12 0 17)) j) 211 0 (j) ≤ 600 := hc2.2.2.2 j hj.1 (by omega)
                        refine pw_aload r_12_days_144 rfl ?_
                        refine pw_getR r_12_days_145 fs_12_8 (by decide) ?_
                        refine pw_iload r_12_days_148 rfl ?_
                        refine pw_iald r_12_days_149 sh206 (by omega) (by omega) ?_
                        refine pw_const r_12_days_150 ?_
                        refine pw_icmp_gt r_12_days_151 (fun h151 => ?_) (fun h151 => ?_)
                        · skip
                          refine pw_iinc (b := 0) (ls' := [some (vR 12 (0)), some (vI (n)), some (vI (k)), some (vI ((j + 1))), some (vI (gA (worsM (arvsM (nextM (daysM G k) ) (gF (daysM G k) 12 0 17)) j) 210 (0) (j)))]) r_12_days_230 rfl rfl (by omega) rfl ?_
                          refine pw_goto r_12_days_233 ?_
                          refine pw_weakL (ls' := [some (vR 12 (0)), some (vI (n)), some (vI (k)), some (vI ((j + 1))), none]) (⟨rfl, ⟨rfl, ⟨rfl, ⟨rfl, trivial⟩⟩⟩⟩) ?_
                          refine pw_eqG (G' := worsM (arvsM (nextM (daysM G k) ) (gF (daysM G k) 12 0 17)) (j + 1)) (by first | (exfalso; omega) | (rw [worsM_s hj.1]; unfold worM; rw [if_neg (by omega)]; first | done | rfl) | (rw [worsM_s hj.1]; unfold worM; rw [if_pos (by omega)]; rw [if_neg (by omega)]; first | done | rfl) | (rw [worsM_s hj.1]; unfold worM; rw [if_pos (by omega)]; rw [if_pos (by omega)]; rw [if_pos (by omega)]; first | done | rfl) | (rw [worsM_s hj.1]; unfold worM; rw [if_pos (by omega)]; rw [if_pos (by omega)]; rw [if_neg (by omega)]; first | done | rfl)) ?_
                          exact ih128 ((j + 1)) (by omega) (by omega)
                        · skip
                          refine pw_iload r_12_days_154 rfl ?_
                          refine pw_const r_12_days_156 ?_
                          refine pw_const r_12_days_157 ?_
                          refine pw_callS (av := [vI (gA (worsM (arvsM (nextM (daysM G k) ) (gF (daysM G k) 12 0 17)) j) 210 (0) (j)), vI (1), vI (9)]) (st := []) (ls0 := [some (vI (gA (worsM (arvsM (nextM (daysM G k) ) (gF (daysM G k) 12 0 17)) j) 210 (0) (j))), some (vI (1)), some (vI (9))]) r_12_days_159 rfl rfl rfl (Nat.le_refl _) ?_
                          refine sp_X12_within  ?_
                          refine pw_if_eqB r_12_days_162 (fun h162 => ?_) (fun h162 => ?_)
                          · skip
                            refine pw_iinc (b := 0) (ls' := [some (vR 12 (0)), some (vI (n)), some (vI (k)), some (vI ((j + 1))), some (vI (gA (worsM (arvsM (nextM (daysM G k) ) (gF (daysM G k) 12 0 17)) j) 210 (0) (j)))]) r_12_days_230 rfl rfl (by omega) rfl ?_
                            refine pw_goto r_12_days_233 ?_
                            refine pw_weakL (ls' := [some (vR 12 (0)), some (vI (n)), some (vI (k)), some (vI ((j + 1))), none]) (⟨rfl, ⟨rfl, ⟨rfl, ⟨rfl, trivial⟩⟩⟩⟩) ?_
                            refine pw_eqG (G' := worsM (arvsM (nextM (daysM G k) ) (gF (daysM G k) 12 0 17)) (j + 1)) (by first | (exfalso; omega) | (rw [worsM_s hj.1]; unfold worM; rw [if_neg (by omega)]; first | done | rfl) | (rw [worsM_s hj.1]; unfold worM; rw [if_pos (by omega)]; rw [if_neg (by omega)]; first | done | rfl) | (rw [worsM_s hj.1]; unfold worM; rw [if_pos (by omega)]; rw [if_pos (by omega)]; rw [if_pos (by omega)]; first | done | rfl) | (rw [worsM_s hj.1]; unfold worM; rw [if_pos (by omega)]; rw [if_pos (by omega)]; rw [if_neg (by omega)]; first | done | rfl)) ?_
                            exact ih128 ((j + 1)) (by omega) (by omega)
                          · skip
                            refine pw_aload r_12_days_165 rfl ?_
                            refine pw_getR r_12_days_166 fs_12_5 (by decide) ?_
                            refine pw_iload r_12_days_169 rfl ?_
                            refine pw_iald r_12_days_171 sh203 (by omega) (by omega) ?_
                            refine pw_if_le r_12_days_172 (fun h172 => ?_) (fun h172 => ?_)
                            · skip
                              refine pw_iinc (b := 0) (ls' := [some (vR 12 (0)), some (vI (n)), some (vI (k)), some (vI ((j + 1))), some (vI (gA (worsM (arvsM (nextM (daysM G k) ) (gF (daysM G k) 12 0 17)) j) 210 (0) (j)))]) r_12_days_230 rfl rfl (by omega) rfl ?_
                              refine pw_goto r_12_days_233 ?_
                              refine pw_weakL (ls' := [some (vR 12 (0)), some (vI (n)), some (vI (k)), some (vI ((j + 1))), none]) (⟨rfl, ⟨rfl, ⟨rfl, ⟨rfl, trivial⟩⟩⟩⟩) ?_
                              refine pw_eqG (G' := worsM (arvsM (nextM (daysM G k) ) (gF (daysM G k) 12 0 17)) (j + 1)) (by first | (exfalso; omega) | (rw [worsM_s hj.1]; unfold worM; rw [if_neg (by omega)]; first | done | rfl) | (rw [worsM_s hj.1]; unfold worM; rw [if_pos (by omega)]; rw [if_neg (by omega)]; first | done | rfl) | (rw [worsM_s hj.1]; unfold worM; rw [if_pos (by omega)]; rw [if_pos (by omega)]; rw [if_pos (by omega)]; first | done | rfl) | (rw [worsM_s hj.1]; unfold worM; rw [if_pos (by omega)]; rw [if_pos (by omega)]; rw [if_neg (by omega)]; first | done | rfl)) ?_
                              exact ih128 ((j + 1)) (by omega) (by omega)
                            · skip
                              refine pw_aload r_12_days_175 rfl ?_
                              refine pw_getI r_12_days_176 fs_12_0 (by decide) ?_
                              refine pw_aload r_12_days_179 rfl ?_
                              refine pw_getR r_12_days_180 fs_12_13 (by decide) ?_
                              refine pw_iload r_12_days_183 rfl ?_
                              refine pw_iald r_12_days_184 sh211 (by omega) (by omega) ?_
                              refine pw_isub r_12_days_185 (by omega) ?_
                              refine pw_aload r_12_days_186 rfl ?_
                              refine pw_getR r_12_days_187 fs_12_5 (by decide) ?_
                              refine pw_iload r_12_days_190 rfl ?_
                              refine pw_iald r_12_days_192 sh203 (by omega) (by omega) ?_
                              refine pw_icmp_lt r_12_days_193 (fun h193 => ?_) (fun h193 => ?_)
                              · skip
                                refine pw_iinc (b := 0) (ls' := [some (vR 12 (0)), some (vI (n)), some (vI (k)), some (vI ((j + 1))), some (vI (gA (worsM (arvsM (nextM (daysM G k) ) (gF (daysM G k) 12 0 17)) j) 210 (0) (j)))]) r_12_days_230 rfl rfl (by omega) rfl ?_
                                refine pw_goto r_12_days_233 ?_
                                refine pw_weakL (ls' := [some (vR 12 (0)), some (vI (n)), some (vI (k)), some (vI ((j + 1))), none]) (⟨rfl, ⟨rfl, ⟨rfl, ⟨rfl, trivial⟩⟩⟩⟩) ?_
                                refine pw_eqG (G' := worsM (arvsM (nextM (daysM G k) ) (gF (daysM G k) 12 0 17)) (j + 1)) (by first | (exfalso; omega) | (rw [worsM_s hj.1]; unfold worM; rw [if_neg (by omega)]; first | done | rfl) | (rw [worsM_s hj.1]; unfold worM; rw [if_pos (by omega)]; rw [if_neg (by omega)]; first | done | rfl) | (rw [worsM_s hj.1]; unfold worM; rw [if_pos (by omega)]; rw [if_pos (by omega)]; rw [if_pos (by omega)]; first | done | rfl) | (rw [worsM_s hj.1]; unfold worM; rw [if_pos (by omega)]; rw [if_pos (by omega)]; rw [if_neg (by omega)]; first | done | rfl)) ?_
                                exact ih128 ((j + 1)) (by omega) (by omega)
                              · skip
                                refine pw_aload r_12_days_196 rfl ?_
                                refine pw_getR r_12_days_197 fs_12_12 (by decide) ?_
                                refine pw_iload r_12_days_200 rfl ?_
                                refine pw_iload r_12_days_201 rfl ?_
                                refine pw_const r_12_days_203 ?_
                                refine pw_iadd r_12_days_204 (by omega) ?_
                                refine pw_iast r_12_days_205 sh210 (by omega) (by omega) ?_
                                refine pw_aload r_12_days_206 rfl ?_
                                refine pw_getR r_12_days_207 fs_12_13 (by decide) ?_
                                refine pw_iload r_12_days_210 rfl ?_
                                refine pw_aload r_12_days_211 rfl ?_
                                refine pw_getIv (v := gF (worsM (arvsM (nextM (daysM G k) ) (gF (daysM G k) 12 0 17)) j) 12 (0) 0) r_12_days_212 fs_12_0 (by decide) (by first | rfl | simp [gF_sF, gF_sA, gF_uA, gF_sD, gA_sF, gA_sA, gA_uA, gA_sD, gD_sF, gD_sA, gD_uA, gD_sD]) ?_
                                refine pw_iast r_12_days_215 sh211 (by omega) (by omega) ?_
                                refine pw_iload r_12_days_216 rfl ?_
                                refine pw_const r_12_days_218 ?_
                                refine pw_icmp_ne r_12_days_220 (fun h220 => ?_) (fun h220 => ?_)
                                · skip
                                  refine pw_iinc (b := 0) (ls' := [some (vR 12 (0)), some (vI (n)), some (vI (k)), some (vI ((j + 1))), some (vI (gA (worsM (arvsM (nextM (daysM G k) ) (gF (daysM G k) 12 0 17)) j) 210 (0) (j)))]) r_12_days_230 rfl rfl (by omega) rfl ?_
                                  refine pw_goto r_12_days_233 ?_
                                  refine pw_weakL (ls' := [some (vR 12 (0)), some (vI (n)), some (vI (k)), some (vI ((j + 1))), none]) (⟨rfl, ⟨rfl, ⟨rfl, ⟨rfl, trivial⟩⟩⟩⟩) ?_
                                  refine pw_eqG (G' := worsM (arvsM (nextM (daysM G k) ) (gF (daysM G k) 12 0 17)) (j + 1)) (by first | (exfalso; omega) | (rw [worsM_s hj.1]; unfold worM; rw [if_neg (by omega)]; first | done | rfl) | (rw [worsM_s hj.1]; unfold worM; rw [if_pos (by omega)]; rw [if_neg (by omega)]; first | done | rfl) | (rw [worsM_s hj.1]; unfold worM; rw [if_pos (by omega)]; rw [if_pos (by omega)]; rw [if_pos (by omega)]; first | done | rfl) | (rw [worsM_s hj.1]; unfold worM; rw [if_pos (by omega)]; rw [if_pos (by omega)]; rw [if_neg (by omega)]; first | done | rfl)) ?_
                                  exact ih128 ((j + 1)) (by omega) (by omega)
                                · skip
                                  refine pw_aload r_12_days_223 rfl ?_
                                  refine pw_iload r_12_days_224 rfl ?_
                                  refine pw_const r_12_days_225 ?_
                                  refine pw_callV (av := [vI (j), vI (8)]) (st := []) (ls0 := [some (vR 12 (0)), some (vI (j)), some (vI (8)), none]) r_12_days_227 rfl rfl rfl (Nat.le_refl _) ?_
                                  refine sp_X12_becomes (ht2) (⟨hj.1, by omega⟩) ?_ ?_
                                  · skip
                                    intros
                                    refine pw_eqG (G' := sA (sA (sA (sA (sA (worsM (arvsM (nextM (daysM G k) ) (gF (daysM G k) 12 0 17)) j) 210 (0) (j) (((gA (worsM (arvsM (nextM (daysM G k) ) (gF (daysM G k) 12 0 17)) j) 210 (0) (j)) + 1))) 211 (0) (j) (gF (worsM (arvsM (nextM (daysM G k) ) (gF (daysM G k) 12 0 17)) j) 12 (0) 0)) 206 (0) (j) (8)) 213 (0) (j) ((gF (worsM (arvsM (nextM (daysM G k) ) (gF (daysM G k) 12 0 17)) j) 12 (0) 0))) 214 (0) (j) (-1)) (by first | rfl | simp (disch := decide) [gF_sF, gF_sA, gF_uA, gF_sD, gA_sF, gA_sA, gA_uA, gA_sD, gD_sF, gD_sA, gD_uA, gD_sD]) ?_
                                    have e9 : gA (sA (sA (worsM (arvsM (nextM (daysM G k)) (gF (daysM G k) 12 0 17)) j) 210 0 (j) (gA (worsM (arvsM (nextM (daysM G k)) (gF (daysM G k) 12 0 17)) j) 210 0 (j) + 1)) 211 0 (j) (gF (worsM (arvsM (nextM (daysM G k)) (gF (daysM G k) 12 0 17)) j) 12 0 0)) 206 0 (j) = gA (worsM (arvsM (nextM (daysM G k)) (gF (daysM G k) 12 0 17)) j) 206 0 (j) := rfl
                                    refine pw_iinc (b := 0) (ls' := [some (vR 12 (0)), some (vI (n)), some (vI (k)), some (vI ((j + 1))), some (vI (gA (worsM (arvsM (nextM (daysM G k) ) (gF (daysM G k) 12 0 17)) j) 210 (0) (j)))]) r_12_days_230 rfl rfl (by omega) rfl ?_
                                    refine pw_goto r_12_days_233 ?_
                                    refine pw_weakL (ls' := [some (vR 12 (0)), some (vI (n)), some (vI (k)), some (vI ((j + 1))), none]) (⟨rfl, ⟨rfl, ⟨rfl, ⟨rfl, trivial⟩⟩⟩⟩) ?_
                                    refine pw_eqG (G' := worsM (arvsM (nextM (daysM G k) ) (gF (daysM G k) 12 0 17)) (j + 1)) (by first | (exfalso; omega) | (rw [worsM_s hj.1]; unfold worM; rw [if_neg (by omega)]; first | done | rfl) | (rw [worsM_s hj.1]; unfold worM; rw [if_pos (by omega)]; rw [if_neg (by omega)]; first | done | rfl) | (rw [worsM_s hj.1]; unfold worM; rw [if_pos (by omega)]; rw [if_pos (by omega)]; rw [if_pos (by omega)]; first | done | rfl) | (rw [worsM_s hj.1]; unfold worM; rw [if_pos (by omega)]; rw [if_pos (by omega)]; rw [if_neg (by omega)]; first | done | rfl)) ?_
                                    exact ih128 ((j + 1)) (by omega) (by omega)
                                  · skip
                                    intros
                                    refine pw_eqG (G' := sA (sA (sA (uA (sA (sA (worsM (arvsM (nextM (daysM G k) ) (gF (daysM G k) 12 0 17)) j) 210 (0) (j) (((gA (worsM (arvsM (nextM (daysM G k) ) (gF (daysM G k) 12 0 17)) j) 210 (0) (j)) + 1))) 211 (0) (j) (gF (worsM (arvsM (nextM (daysM G k) ) (gF (daysM G k) 12 0 17)) j) 12 (0) 0)) 218 (0) (filF (fun j0 => (gA (worsM (arvsM (nextM (daysM G k) ) (gF (daysM G k) 12 0 17)) j) 215 (0) (j0)) = j ∧ (gA (worsM (arvsM (nextM (daysM G k) ) (gF (daysM G k) 12 0 17)) j) 218 (0) (j0)) < 0) (fun j0 => (gF (worsM (arvsM (nextM (daysM G k) ) (gF (daysM G k) 12 0 17)) j) 12 (0) 0)) (gA (sA (sA (worsM (arvsM (nextM (daysM G k) ) (gF (daysM G k) 12 0 17)) j) 210 (0) (j) (((gA (worsM (arvsM (nextM (daysM G k) ) (gF (daysM G k) 12 0 17)) j) 210 (0) (j)) + 1))) 211 (0) (j) (gF (worsM (arvsM (nextM (daysM G k) ) (gF (daysM G k) 12 0 17)) j) 12 (0) 0)) 218 0) (gF (worsM (arvsM (nextM (daysM G k) ) (gF (daysM G k) 12 0 17)) j) 12 (0) 22))) 206 (0) (j) (8)) 213 (0) (j) ((gF (worsM (arvsM (nextM (daysM G k) ) (gF (daysM G k) 12 0 17)) j) 12 (0) 0))) 214 (0) (j) (-1)) (by first | rfl | simp (disch := decide) [gF_sF, gF_sA, gF_uA, gF_sD, gA_sF, gA_sA, gA_uA, gA_sD, gD_sF, gD_sA, gD_uA, gD_sD]) ?_
                                    have e9 : gA (sA (sA (worsM (arvsM (nextM (daysM G k)) (gF (daysM G k) 12 0 17)) j) 210 0 (j) (gA (worsM (arvsM (nextM (daysM G k)) (gF (daysM G k) 12 0 17)) j) 210 0 (j) + 1)) 211 0 (j) (gF (worsM (arvsM (nextM (daysM G k)) (gF (daysM G k) 12 0 17)) j) 12 0 0)) 206 0 (j) = gA (worsM (arvsM (nextM (daysM G k)) (gF (daysM G k) 12 0 17)) j) 206 0 (j) := rfl
                                    refine pw_iinc (b := 0) (ls' := [some (vR 12 (0)), some (vI (n)), some (vI (k)), some (vI ((j + 1))), some (vI (gA (worsM (arvsM (nextM (daysM G k) ) (gF (daysM G k) 12 0 17)) j) 210 (0) (j)))]) r_12_days_230 rfl rfl (by omega) rfl ?_
                                    refine pw_goto r_12_days_233 ?_
                                    refine pw_weakL (ls' := [some (vR 12 (0)), some (vI (n)), some (vI (k)), some (vI ((j + 1))), none]) (⟨rfl, ⟨rfl, ⟨rfl, ⟨rfl, trivial⟩⟩⟩⟩) ?_
                                    refine pw_eqG (G' := worsM (arvsM (nextM (daysM G k) ) (gF (daysM G k) 12 0 17)) (j + 1)) (by first | (exfalso; omega) | (rw [worsM_s hj.1]; unfold worM; rw [if_neg (by omega)]; first | done | rfl) | (rw [worsM_s hj.1]; unfold worM; rw [if_pos (by omega)]; rw [if_neg (by omega)]; first | done | rfl) | (rw [worsM_s hj.1]; unfold worM; rw [if_pos (by omega)]; rw [if_pos (by omega)]; rw [if_pos (by omega)]; first | done | rfl) | (rw [worsM_s hj.1]; unfold worM; rw [if_pos (by omega)]; rw [if_pos (by omega)]; rw [if_neg (by omega)]; first | done | rfl)) ?_
                                    exact ih128 ((j + 1)) (by omega) (by omega)
                  refine pw_eqG (G' := worsM (arvsM (nextM (daysM G k) ) (gF (daysM G k) 12 0 17)) 0) (rfl) ?_
                  exact L128 _ (0) (by omega) (Nat.lt_succ_self _)
                · skip
                  refine pw_aload r_12_days_51 rfl ?_
                  refine pw_getR r_12_days_52 fs_12_8 (by decide) ?_
                  refine pw_iload r_12_days_55 rfl ?_
                  refine pw_iald r_12_days_56 sh206 (by omega) (by omega) ?_
                  refine pw_const r_12_days_57 ?_
                  refine pw_icmp_ne r_12_days_58 (fun h58 => ?_) (fun h58 => ?_)
                  · skip
                    refine pw_iinc (b := 0) (ls' := [some (vR 12 (0)), some (vI (n)), some (vI (k)), some (vI ((i + 1))), none]) r_12_days_120 rfl rfl (by omega) rfl ?_
                    refine pw_goto r_12_days_123 ?_
                    refine pw_eqG (G' := arvsM (nextM (daysM G k) ) (i + 1)) (by first | (exfalso; omega) | (rw [arvsM_s hi.1]; unfold arvM; rw [if_neg (by omega)]; first | done | rfl) | (rw [arvsM_s hi.1]; unfold arvM; rw [if_pos (by omega)]; rw [if_pos (by omega)]; rw [if_pos (by omega)]; first | done | rfl) | (rw [arvsM_s hi.1]; unfold arvM; rw [if_pos (by omega)]; rw [if_neg (by omega)]; rw [if_pos (by omega)]; first | done | rfl) | (rw [arvsM_s hi.1]; unfold arvM; rw [if_pos (by omega)]; rw [if_neg (by omega)]; rw [if_neg (by omega)]; first | done | rfl)) ?_
                    exact ih43 ((i + 1)) (by omega) (by omega)
                  · skip
                    refine pw_aload r_12_days_61 rfl ?_
                    refine pw_getR r_12_days_62 fs_12_16 (by decide) ?_
                    refine pw_iload r_12_days_65 rfl ?_
                    refine pw_iald r_12_days_66 sh214 (by omega) (by omega) ?_
                    refine pw_aload r_12_days_67 rfl ?_
                    refine pw_getI r_12_days_68 fs_12_0 (by decide) ?_
                    refine pw_icmp_ne r_12_days_71 (fun h71 => ?_) (fun h71 => ?_)
                    · skip
                      refine pw_iinc (b := 0) (ls' := [some (vR 12 (0)), some (vI (n)), some (vI (k)), some (vI ((i + 1))), none]) r_12_days_120 rfl rfl (by omega) rfl ?_
                      refine pw_goto r_12_days_123 ?_
                      refine pw_eqG (G' := arvsM (nextM (daysM G k) ) (i + 1)) (by first | (exfalso; omega) | (rw [arvsM_s hi.1]; unfold arvM; rw [if_neg (by omega)]; first | done | rfl) | (rw [arvsM_s hi.1]; unfold arvM; rw [if_pos (by omega)]; rw [if_pos (by omega)]; rw [if_pos (by omega)]; first | done | rfl) | (rw [arvsM_s hi.1]; unfold arvM; rw [if_pos (by omega)]; rw [if_neg (by omega)]; rw [if_pos (by omega)]; first | done | rfl) | (rw [arvsM_s hi.1]; unfold arvM; rw [if_pos (by omega)]; rw [if_neg (by omega)]; rw [if_neg (by omega)]; first | done | rfl)) ?_
                      exact ih43 ((i + 1)) (by omega) (by omega)
                    · skip
                      refine pw_aload r_12_days_74 rfl ?_
                      refine pw_getR r_12_days_75 fs_12_9 (by decide) ?_
                      refine pw_iload r_12_days_78 rfl ?_
                      refine pw_iald r_12_days_79 sh207 (by omega) (by omega) ?_
                      refine pw_const r_12_days_80 ?_
                      refine pw_icmp_ge r_12_days_82 (fun h82 => ?_) (fun h82 => ?_)
                      · skip
                        refine pw_aload r_12_days_99 rfl ?_
                        refine pw_iload r_12_days_100 rfl ?_
                        refine pw_aload r_12_days_101 rfl ?_
                        refine pw_getR r_12_days_102 fs_12_9 (by decide) ?_
                        refine pw_iload r_12_days_105 rfl ?_
                        refine pw_iald r_12_days_106 sh207 (by omega) (by omega) ?_
                        refine pw_const r_12_days_107 ?_
                        refine pw_icmp_ne r_12_days_109 (fun h109 => ?_) (fun h109 => ?_)
                        · skip
                          refine pw_const r_12_days_116 ?_
                          refine pw_callV (av := [vI (i), vI (3)]) (st := []) (ls0 := [some (vR 12 (0)), some (vI (i)), some (vI (3)), none]) r_12_days_117 rfl rfl rfl (Nat.le_refl _) ?_
                          refine sp_X12_becomes (ht1) (⟨hi.1, by omega⟩) ?_ ?_
                          · skip
                            intros
                            refine pw_eqG (G' := sA (sA (sA (arvsM (nextM (daysM G k) ) i) 206 (0) (i) (3)) 213 (0) (i) ((gF (arvsM (nextM (daysM G k) ) i) 12 (0) 0))) 214 (0) (i) (-1)) (by first | rfl | simp (disch := decide) [gF_sF, gF_sA, gF_uA, gF_sD, gA_sF, gA_sA, gA_uA, gA_sD, gD_sF, gD_sA, gD_uA, gD_sD]) ?_
                            refine pw_iinc (b := 0) (ls' := [some (vR 12 (0)), some (vI (n)), some (vI (k)), some (vI ((i + 1))), none]) r_12_days_120 rfl rfl (by omega) rfl ?_
                            refine pw_goto r_12_days_123 ?_
                            refine pw_eqG (G' := arvsM (nextM (daysM G k) ) (i + 1)) (by first | (exfalso; omega) | (rw [arvsM_s hi.1]; unfold arvM; rw [if_neg (by omega)]; first | done | rfl) | (rw [arvsM_s hi.1]; unfold arvM; rw [if_pos (by omega)]; rw [if_pos (by omega)]; rw [if_pos (by omega)]; first | done | rfl) | (rw [arvsM_s hi.1]; unfold arvM; rw [if_pos (by omega)]; rw [if_neg (by omega)]; rw [if_pos (by omega)]; first | done | rfl) | (rw [arvsM_s hi.1]; unfold arvM; rw [if_pos (by omega)]; rw [if_neg (by omega)]; rw [if_neg (by omega)]; first | done | rfl)) ?_
                            exact ih43 ((i + 1)) (by omega) (by omega)
                          · skip
                            intros
                            refine pw_eqG (G' := sA (sA (sA (uA (arvsM (nextM (daysM G k) ) i) 218 (0) (filF (fun j0 => (gA (arvsM (nextM (daysM G k) ) i) 215 (0) (j0)) = i ∧ (gA (arvsM (nextM (daysM G k) ) i) 218 (0) (j0)) < 0) (fun j0 => (gF (arvsM (nextM (daysM G k) ) i) 12 (0) 0)) (gA (arvsM (nextM (daysM G k) ) i) 218 0) (gF (arvsM (nextM (daysM G k) ) i) 12 (0) 22))) 206 (0) (i) (3)) 213 (0) (i) ((gF (arvsM (nextM (daysM G k) ) i) 12 (0) 0))) 214 (0) (i) (-1)) (by first | rfl | simp (disch := decide) [gF_sF, gF_sA, gF_uA, gF_sD, gA_sF, gA_sA, gA_uA, gA_sD, gD_sF, gD_sA, gD_uA, gD_sD]) ?_
                            refine pw_iinc (b := 0) (ls' := [some (vR 12 (0)), some (vI (n)), some (vI (k)), some (vI ((i + 1))), none]) r_12_days_120 rfl rfl (by omega) rfl ?_
                            refine pw_goto r_12_days_123 ?_
                            refine pw_eqG (G' := arvsM (nextM (daysM G k) ) (i + 1)) (by first | (exfalso; omega) | (rw [arvsM_s hi.1]; unfold arvM; rw [if_neg (by omega)]; first | done | rfl) | (rw [arvsM_s hi.1]; unfold arvM; rw [if_pos (by omega)]; rw [if_pos (by omega)]; rw [if_pos (by omega)]; first | done | rfl) | (rw [arvsM_s hi.1]; unfold arvM; rw [if_pos (by omega)]; rw [if_neg (by omega)]; rw [if_pos (by omega)]; first | done | rfl) | (rw [arvsM_s hi.1]; unfold arvM; rw [if_pos (by omega)]; rw [if_neg (by omega)]; rw [if_neg (by omega)]; first | done | rfl)) ?_
                            exact ih43 ((i + 1)) (by omega) (by omega)
                        · skip
                          refine pw_const r_12_days_112 ?_
                          refine pw_goto r_12_days_113 ?_
                          refine pw_callV (av := [vI (i), vI (2)]) (st := []) (ls0 := [some (vR 12 (0)), some (vI (i)), some (vI (2)), none]) r_12_days_117 rfl rfl rfl (Nat.le_refl _) ?_
                          refine sp_X12_becomes (ht1) (⟨hi.1, by omega⟩) ?_ ?_
                          · skip
                            intros
                            refine pw_eqG (G' := sA (sA (sA (arvsM (nextM (daysM G k) ) i) 206 (0) (i) (2)) 213 (0) (i) ((gF (arvsM (nextM (daysM G k) ) i) 12 (0) 0))) 214 (0) (i) (-1)) (by first | rfl | simp (disch := decide) [gF_sF, gF_sA, gF_uA, gF_sD, gA_sF, gA_sA, gA_uA, gA_sD, gD_sF, gD_sA, gD_uA, gD_sD]) ?_
                            refine pw_iinc (b := 0) (ls' := [some (vR 12 (0)), some (vI (n)), some (vI (k)), some (vI ((i + 1))), none]) r_12_days_120 rfl rfl (by omega) rfl ?_
                            refine pw_goto r_12_days_123 ?_
                            refine pw_eqG (G' := arvsM (nextM (daysM G k) ) (i + 1)) (by first | (exfalso; omega) | (rw [arvsM_s hi.1]; unfold arvM; rw [if_neg (by omega)]; first | done | rfl) | (rw [arvsM_s hi.1]; unfold arvM; rw [if_pos (by omega)]; rw [if_pos (by omega)]; rw [if_pos (by omega)]; first | done | rfl) | (rw [arvsM_s hi.1]; unfold arvM; rw [if_pos (by omega)]; rw [if_neg (by omega)]; rw [if_pos (by omega)]; first | done | rfl) | (rw [arvsM_s hi.1]; unfold arvM; rw [if_pos (by omega)]; rw [if_neg (by omega)]; rw [if_neg (by omega)]; first | done | rfl)) ?_
                            exact ih43 ((i + 1)) (by omega) (by omega)
                          · skip
                            intros
                            refine pw_eqG (G' := sA (sA (sA (uA (arvsM (nextM (daysM G k) ) i) 218 (0) (filF (fun j0 => (gA (arvsM (nextM (daysM G k) ) i) 215 (0) (j0)) = i ∧ (gA (arvsM (nextM (daysM G k) ) i) 218 (0) (j0)) < 0) (fun j0 => (gF (arvsM (nextM (daysM G k) ) i) 12 (0) 0)) (gA (arvsM (nextM (daysM G k) ) i) 218 0) (gF (arvsM (nextM (daysM G k) ) i) 12 (0) 22))) 206 (0) (i) (2)) 213 (0) (i) ((gF (arvsM (nextM (daysM G k) ) i) 12 (0) 0))) 214 (0) (i) (-1)) (by first | rfl | simp (disch := decide) [gF_sF, gF_sA, gF_uA, gF_sD, gA_sF, gA_sA, gA_uA, gA_sD, gD_sF, gD_sA, gD_uA, gD_sD]) ?_
                            refine pw_iinc (b := 0) (ls' := [some (vR 12 (0)), some (vI (n)), some (vI (k)), some (vI ((i + 1))), none]) r_12_days_120 rfl rfl (by omega) rfl ?_
                            refine pw_goto r_12_days_123 ?_
                            refine pw_eqG (G' := arvsM (nextM (daysM G k) ) (i + 1)) (by first | (exfalso; omega) | (rw [arvsM_s hi.1]; unfold arvM; rw [if_neg (by omega)]; first | done | rfl) | (rw [arvsM_s hi.1]; unfold arvM; rw [if_pos (by omega)]; rw [if_pos (by omega)]; rw [if_pos (by omega)]; first | done | rfl) | (rw [arvsM_s hi.1]; unfold arvM; rw [if_pos (by omega)]; rw [if_neg (by omega)]; rw [if_pos (by omega)]; first | done | rfl) | (rw [arvsM_s hi.1]; unfold arvM; rw [if_pos (by omega)]; rw [if_neg (by omega)]; rw [if_neg (by omega)]; first | done | rfl)) ?_
                            exact ih43 ((i + 1)) (by omega) (by omega)
                      · skip
                        have hrr : gF (arvsM (nextM (daysM G k)) i) 12 0 22 < 400 := hrm hn1.2 k i hk.1 hkn hi.1 (by omega) (by omega) (by omega) (by omega)
                        refine pw_aload r_12_days_85 rfl ?_
                        refine pw_iload r_12_days_86 rfl ?_
                        refine pw_aload r_12_days_87 rfl ?_
                        refine pw_getR r_12_days_88 fs_12_9 (by decide) ?_
                        refine pw_iload r_12_days_91 rfl ?_
                        refine pw_iald r_12_days_92 sh207 (by omega) (by omega) ?_
                        refine pw_callV (av := [vI (i), vI (gA (arvsM (nextM (daysM G k) ) i) 207 (0) (i))]) (st := []) (ls0 := [some (vR 12 (0)), some (vI (i)), some (vI (gA (arvsM (nextM (daysM G k) ) i) 207 (0) (i)))]) r_12_days_93 rfl rfl rfl (Nat.le_refl _) ?_
                        refine sp_X12_enters (⟨hi.1, by omega⟩) (⟨ht1.1, hrr⟩) ?_
                        refine pw_eqG (G' := sF (sA (sA (sA (sA (sA (sA (sA (sA (arvsM (nextM (daysM G k) ) i) 206 (0) (i) (0)) 207 (0) (i) ((gA (arvsM (nextM (daysM G k) ) i) 207 (0) (i)))) 213 (0) (i) ((gF (arvsM (nextM (daysM G k) ) i) 12 (0) 0))) 214 (0) (i) (-1)) 215 (0) ((gF (arvsM (nextM (daysM G k) ) i) 12 (0) 22)) (i)) 216 (0) ((gF (arvsM (nextM (daysM G k) ) i) 12 (0) 22)) ((gA (arvsM (nextM (daysM G k) ) i) 207 (0) (i)))) 217 (0) ((gF (arvsM (nextM (daysM G k) ) i) 12 (0) 22)) ((gF (arvsM (nextM (daysM G k) ) i) 12 (0) 0))) 218 (0) ((gF (arvsM (nextM (daysM G k) ) i) 12 (0) 22)) (-1)) 12 (0) 22 ((gF (arvsM (nextM (daysM G k) ) i) 12 (0) 22) + 1)) (by first | rfl | simp (disch := decide) [gF_sF, gF_sA, gF_uA, gF_sD, gA_sF, gA_sA, gA_uA, gA_sD, gD_sF, gD_sA, gD_uA, gD_sD]) ?_
                        refine pw_goto r_12_days_96 ?_
                        refine pw_iinc (b := 0) (ls' := [some (vR 12 (0)), some (vI (n)), some (vI (k)), some (vI ((i + 1))), none]) r_12_days_120 rfl rfl (by omega) rfl ?_
                        refine pw_goto r_12_days_123 ?_
                        refine pw_eqG (G' := arvsM (nextM (daysM G k) ) (i + 1)) (by first | (exfalso; omega) | (rw [arvsM_s hi.1]; unfold arvM; rw [if_neg (by omega)]; first | done | rfl) | (rw [arvsM_s hi.1]; unfold arvM; rw [if_pos (by omega)]; rw [if_pos (by omega)]; rw [if_pos (by omega)]; first | done | rfl) | (rw [arvsM_s hi.1]; unfold arvM; rw [if_pos (by omega)]; rw [if_neg (by omega)]; rw [if_pos (by omega)]; first | done | rfl) | (rw [arvsM_s hi.1]; unfold arvM; rw [if_pos (by omega)]; rw [if_neg (by omega)]; rw [if_neg (by omega)]; first | done | rfl)) ?_
                        exact ih43 ((i + 1)) (by omega) (by omega)
            refine pw_eqG (G' := arvsM (nextM (daysM G k) ) 0) (rfl) ?_
            exact L43 _ (0) (by omega) (Nat.lt_succ_self _)
      refine pw_eqG (G' := daysM G 0) (rfl) ?_
      exact L26 _ (0) (by omega) (by omega) (Nat.lt_succ_self _)
    · skip
      refine pw_const r_12_days_22 ?_
      refine pw_iret r_12_days_23 rfl (Nat.le_refl _) ⟨rfl, ?_⟩
      first | exact h1 (by omega) | exact h2 hn1.1 hn1.2
