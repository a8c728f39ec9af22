abbrev RQ : Type := (Int → Int) × Option PR × Int × Int × Int × Int
/-- the reader after a text was read -/
def rstC (G : PH) (q : RQ) : PH := sF (sF (sF (sF (sD (uA G 46 0 q.1) 4 0 3 q.2.1) 4 0 1 q.2.2.1) 4 0 2 q.2.2.2.1) 4 0 4 q.2.2.2.2.1) 4 0 5 q.2.2.2.2.2
def rstQ (G : PH) : RQ := (gA G 46 0, gD G 4 0 3, gF G 4 0 1, gF G 4 0 2, gF G 4 0 4, gF G 4 0 5)
theorem sD_self (G : PH) (c : Nat) (r i : Int) : sD G c r i (gD G c r i) = G := by
  refine Prod.ext rfl (Prod.ext rfl (funext fun c' => funext fun r' => funext fun i' => ?_))
  show (if c' = c ∧ r' = r ∧ i' = i then gD G c r i else G.2.2 c' r' i') = G.2.2 c' r' i'
  by_cases z : c' = c ∧ r' = r ∧ i' = i
  · rw [if_pos z, z.1, z.2.1, z.2.2]; rfl
  · rw [if_neg z]
theorem sD_sD (G : PH) (c : Nat) (r i : Int) (v u : Option PR) : sD (sD G c r i v) c r i u = sD G c r i u := by
  refine Prod.ext rfl (Prod.ext rfl (funext fun c' => funext fun r' => funext fun i' => ?_))
  show (if c' = c ∧ r' = r ∧ i' = i then u else if c' = c ∧ r' = r ∧ i' = i then v else G.2.2 c' r' i') = if c' = c ∧ r' = r ∧ i' = i then u else G.2.2 c' r' i'
  by_cases z : c' = c ∧ r' = r ∧ i' = i
  · rw [if_pos z, if_pos z]
  · rw [if_neg z, if_neg z, if_neg z]
theorem uA_own (G : PH) (c : Nat) (r : Int) : uA G c r (gA G c r) = G := uA_self G c r
theorem sD_sF (G : PH) (c : Nat) (r : Int) (k : Nat) (v : Int) (c' : Nat) (r' i : Int) (u : Option PR) : sD (sF G c r k v) c' r' i u = sF (sD G c' r' i u) c r k v := rfl
theorem uA_sD (G : PH) (c : Nat) (r : Int) (f : Int → Int) (c' : Nat) (r' i : Int) (u : Option PR) : uA (sD G c' r' i u) c r f = sD (uA G c r f) c' r' i u := rfl
theorem rstC_rst (G : PH) (q q' : RQ) : rstC (rstC G q) q' = rstC G q' := by
  unfold rstC
  simp (disch := decide) only [uA_sF, uA_sD, uA_uA, sD_sF, sD_sD, sF_sF, sF_srt]
theorem rstC_self (G : PH) : rstC G (rstQ G) = G := by
  show sF (sF (sF (sF (sD (uA G 46 0 (gA G 46 0)) 4 0 3 (gD G 4 0 3)) 4 0 1 (gF G 4 0 1)) 4 0 2 (gF G 4 0 2)) 4 0 4 (gF G 4 0 4)) 4 0 5 (gF G 4 0 5) = G
  rw [uA_own, sD_self, sF_self, sF_self, sF_self, sF_self]
abbrev RQm : Type := (Int → Int) × Int × Int × Int × Int × Int × Int
def rstM (G : PH) (q : RQm) : PH := sF (sF (sF (sF (sF (sF (uA G 235 0 q.1) 12 0 44 q.2.1) 12 0 45 q.2.2.1) 12 0 46 q.2.2.2.1) 12 0 47 q.2.2.2.2.1) 12 0 48 q.2.2.2.2.2.1) 12 0 50 q.2.2.2.2.2.2
def rstN (G : PH) : RQm := (gA G 235 0, gF G 12 0 44, gF G 12 0 45, gF G 12 0 46, gF G 12 0 47, gF G 12 0 48, gF G 12 0 50)
theorem rstM_rst (G : PH) (q q' : RQm) : rstM (rstM G q) q' = rstM G q' := by
  unfold rstM
  simp (disch := decide) only [uA_sF, uA_uA, sF_sF, sF_srt]
theorem rstM_self (G : PH) : rstM G (rstN G) = G := by
  show sF (sF (sF (sF (sF (sF (uA G 235 0 (gA G 235 0)) 12 0 44 (gF G 12 0 44)) 12 0 45 (gF G 12 0 45)) 12 0 46 (gF G 12 0 46)) 12 0 47 (gF G 12 0 47)) 12 0 48 (gF G 12 0 48)) 12 0 50 (gF G 12 0 50) = G
  rw [uA_own, sF_self, sF_self, sF_self, sF_self, sF_self, sF_self]
noncomputable def kC (G : PH) (z p s k : Int) : Int := lastOf (fun i => ((gA G 83 0 (i)) = p ∧ (gA G 84 0 (i)) = s ∧ ((((s = 2 ∧ z ≠ (gF G 3 (p) 2)) ∨ (s ≠ 2 ∧ z = (gF G 3 (p) 2))) ∧ (gA G 86 0 (i)) ≤ k) ∨ (¬ ((s = 2 ∧ z ≠ (gF G 3 (p) 2)) ∨ (s ≠ 2 ∧ z = (gF G 3 (p) 2))) ∧ (gA G 87 0 (i)) ≤ k)))) (gA G 85 0) 0 (gF G 9 0 0)
noncomputable def kM (G : PH) (z p s k : Int) : Int := lastOf (fun i => ((gA G 219 0 (i)) = p ∧ (gA G 220 0 (i)) = s ∧ ((((gA G 205 0 ((gA G 219 0 (i)))) = z ↔ (gA G 220 0 (i)) ≠ 2) ∧ (gA G 222 0 (i)) ≤ k) ∨ (¬ ((gA G 205 0 ((gA G 219 0 (i)))) = z ↔ (gA G 220 0 (i)) ≠ 2) ∧ cmF (gF G 12 0 29) (gA G 223 0) (gA G 222 0 (i)) 100000 ≤ k)))) (gA G 221 0) 0 (gF G 12 0 27)
noncomputable def brC (G : PH) (z d0 : Int) : Int := cnt (fun i => (gA G 88 0 (i)) = z ∧ ((gA G 91 0 (i)) < d0 ∧ cnt (fun i1 => ((gF G 3 (i1) 2) = (gA G 88 0 (i)) ∧ (gF G 3 (i1) 8) = 5) ∧ (gA G 90 0 (i)) ≤ (gF G 3 (i1) 9) ∧ (gF G 3 (i1) 9) ≤ (gA G 91 0 (i))) (gF G 1 0 1) < (gA G 89 0 (i)))) (gF G 9 0 2)
noncomputable def brM (G : PH) (z d0 : Int) : Int := cnt (fun i => (gA G 224 0 (i)) = z ∧ ((gA G 227 0 (i)) < d0 ∧ cnt (fun i1 => ((gA G 206 0 (i1)) = 5 ∧ (gA G 205 0 (i1)) = (gA G 224 0 (i))) ∧ (gA G 226 0 (i)) ≤ (gA G 213 0 (i1)) ∧ (gA G 213 0 (i1)) ≤ (gA G 227 0 (i))) (gF G 12 0 17) < (gA G 225 0 (i)))) (gF G 12 0 34)
noncomputable def ciC (G : PH) (c t : Int) : Int := cnt (fun i => ((gF G 3 (i) 8) = 0 ∧ (gF G 3 (i) 10) = c) ∧ (t = 0 ∨ (gF G 3 (i) 1) = 3)) (gF G 1 0 1)
noncomputable def ciM (G : PH) (c t n : Int) : Int := cnt (fun i => ((gA G 206 0 (i)) = 0 ∧ (gA G 207 0 (i)) = c) ∧ (t = 0 ∨ (gA G 204 0 (i)) = 3)) n
noncomputable def fcC (G : PH) (u t k : Int) : Int := lastOf (fun i => ((gA G 80 0 (i)) = u ∧ (gA G 81 0 (i)) ≤ k ∧ (gA G 82 0 (i)) ≤ t)) (fun i => i) (-1) (gF G 8 0 0)
noncomputable def fcM (G : PH) (u t k : Int) : Int := lastOf (fun i => ((gA G 231 0 (i)) = u ∧ (gA G 232 0 (i)) ≤ k ∧ (gA G 233 0 (i)) ≤ t)) (fun i => i) (-1) (gF G 12 0 42)
noncomputable def valC (G : PH) (z p d0 k : Int) : Int → Int := fun j => if j = 0 then (gF G 3 (p) 1) else if j = 1 then kC G z p 0 k else if j = 2 then kC G z p 1 k else if j = 3 then kC G z p 2 k else if j = 4 then (gF G 3 (p) 3) else if j = 5 then max 0 (d0 - (gF G 3 (p) 5)) else if j = 6 then brC G (1 - z) (min d0 (gF G 1 0 2)) else if j = 7 then (if (gF G 3 (p) 8) = 0 then ciC G (gF G 3 (p) 10) 0 else 0) else if (gF G 3 (p) 8) = 0 then ciC G (gF G 3 (p) 10) 1 else 0
noncomputable def valM (G : PH) (z p d0 k : Int) : Int → Int := fun j => if j = 0 then (gA G 204 0 (p)) else if j = 1 then kM G z p 0 k else if j = 2 then kM G z p 1 k else if j = 3 then kM G z p 2 k else if j = 4 then (gA G 208 0 (p)) else if j = 5 then max 0 (d0 - (gA G 212 0 (p))) else if j = 6 then brM G (1 - z) (min d0 (gF G 12 0 0)) else if j = 7 then (if (gA G 206 0 (p)) = 0 then ciM G (gA G 207 0 (p)) 0 (gF G 12 0 17) else 0) else if (gA G 206 0 (p)) = 0 then ciM G (gA G 207 0 (p)) 1 (gF G 12 0 17) else 0
/-- the lines of text t -/
noncomputable def lns (b : Int → Int) (n : Int) : List Ln := @dite _ (textOk b n) (Classical.propDecidable _) (fun h => Classical.choose h) (fun _ => [])
theorem lns_ok {b : Int → Int} {n : Int} (h : textOk b n) : EvT b n 0 (.inr (lns b n)) := by
  unfold lns
  rw [dif_pos h]
  exact Classical.choose_spec h
noncomputable def lnC (G : PH) (t : Int) : List Ln := lns (fun j => (gA G 229 0 (160 * t + j))) (gA G 79 0 (t))
noncomputable def lnM (G : PH) (t : Int) : List Ln := lns (fun j => (gA G 229 0 (160 * t + j))) (gA G 230 0 (t))
def txC (G : PH) : Prop := ∀ t, 0 ≤ t → t < (gF G 8 0 0) → (0 ≤ (gA G 79 0 (t)) ∧ (gA G 79 0 (t)) ≤ 160) ∧ (∀ j, 0 ≤ j → j < (gA G 79 0 (t)) → (gA G 229 0 (160 * t + j)) = pAnd (gA G 78 (t) (j)) 255) ∧ EvT (fun j => (gA G 229 0 (160 * t + j))) (gA G 79 0 (t)) 0 (.inr (lnC G t))
def txM (G : PH) : Prop := ∀ t, 0 ≤ t → t < (gF G 12 0 42) → (0 ≤ (gA G 230 0 (t)) ∧ (gA G 230 0 (t)) ≤ 160) ∧ EvT (fun j => (gA G 229 0 (160 * t + j))) (gA G 230 0 (t)) 0 (.inr (lnM G t))
noncomputable def sdC (G : PH) (t z p d0 k : Int) : Int × Int := pick (valC G z p d0 k) (lnC G t) 0
noncomputable def sdM (G : PH) (t z p d0 k : Int) : Int × Int := pick (valM G z p d0 k) (lnM G t) 0
def stC (G : PH) (p d0 k : Int) : Prop := kC G (gF G 3 (p) 2) p 1 k ≠ 0 ∧ ((0 ≤ fcC G 11 d0 k ∧ (sdC G (fcC G 11 d0 k) (gF G 3 (p) 2) p d0 k).2 ≠ 0) ∨ (fcC G 11 d0 k < 0 ∧ 0 ≤ fcC G 1 d0 k ∧ (sdC G (fcC G 1 d0 k) (gF G 3 (p) 2) p d0 k).2 ≠ 0))
def stM (G : PH) (p d0 k : Int) : Prop := kM G (gA G 205 0 (p)) p 1 k ≠ 0 ∧ ((0 ≤ fcM G 11 d0 k ∧ (sdM G (fcM G 11 d0 k) (gA G 205 0 (p)) p d0 k).2 ≠ 0) ∨ (fcM G 11 d0 k < 0 ∧ 0 ≤ fcM G 1 d0 k ∧ (sdM G (fcM G 1 d0 k) (gA G 205 0 (p)) p d0 k).2 ≠ 0))
noncomputable def wtC (G : PH) (p z d0 k : Int) : Int := if fcC G (10 * (2 + z) + 2) d0 k < 0 then 1 else max 0 (min 999 (sdC G (fcC G (10 * (2 + z) + 2) d0 k) z p d0 k).2)
noncomputable def wtM (G : PH) (p z d0 k : Int) : Int := if fcM G (10 * (2 + z) + 2) d0 k < 0 then 1 else max 0 (min 999 (sdM G (fcM G (10 * (2 + z) + 2) d0 k) z p d0 k).2)
theorem fcC_lt {G : PH} (h : 0 ≤ (gF G 8 0 0)) (u t k : Int) : fcC G u t k < (gF G 8 0 0) ∨ fcC G u t k = -1 := by
  rcases last_in (q := fun i => (gA G 80 0 (i)) = u ∧ (gA G 81 0 (i)) ≤ k ∧ (gA G 82 0 (i)) ≤ t) (v := fun i => i) (z := -1) h with e | ⟨i, a, b, c, e⟩
  · exact Or.inr e.1
  · exact Or.inl (by rw [show fcC G u t k = i from e]; exact b)
theorem fcM_lt {G : PH} (h : 0 ≤ (gF G 12 0 42)) (u t k : Int) : fcM G u t k < (gF G 12 0 42) ∨ fcM G u t k = -1 := by
  rcases last_in (q := fun i => (gA G 231 0 (i)) = u ∧ (gA G 232 0 (i)) ≤ k ∧ (gA G 233 0 (i)) ≤ t) (v := fun i => i) (z := -1) h with e | ⟨i, a, b, c, e⟩
  · exact Or.inr e.1
  · exact Or.inl (by rw [show fcM G u t k = i from e]; exact b)

theorem wd_f8_12 : Cond.fieldLink "NameRolls$Texts" 12 "NameRolls$Texts" "reader" "LNameRolls$Reader;" ∈ UW := UW1_at 225 (by decide +kernel) rfl
theorem wd_f8_88 : Cond.fieldLink "NameRolls$Texts" 88 "NameRolls$Reader" "values" "[I" ∈ UW := UW1_at 195 (by decide +kernel) rfl
theorem wd_f8_91 : Cond.fieldLink "NameRolls$Texts" 91 "NameRolls$Person" "kind" "I" ∈ UW := UW3_at 151 (by decide +kernel) rfl
theorem wd_f8_44 : Cond.fieldLink "NameRolls$Texts" 44 "NameRolls$Texts" "tidings" "LNameRolls$Tidings;" ∈ UW := UW1_at 224 (by decide +kernel) rfl
theorem wd_m8_98 : Cond.methodLink "NameRolls$Texts" 98 M_X9_valueKnown.1 ∈ UW := UW5_at 24 (by decide +kernel) rfl
theorem wd_f8_102 : Cond.fieldLink "NameRolls$Texts" 102 "NameRolls$Person" "age" "I" ∈ UW := UW3_at 160 (by decide +kernel) rfl
theorem wd_f8_105 : Cond.fieldLink "NameRolls$Texts" 105 "NameRolls$Person" "came" "I" ∈ UW := UW3_at 166 (by decide +kernel) rfl
theorem wd_m8_108 : Cond.methodLink "NameRolls$Texts" 108 Lib.Math.max.name ∈ UW := UW5_at 25 (by decide +kernel) rfl
theorem wd_f8_40 : Cond.fieldLink "NameRolls$Texts" 40 "NameRolls$Texts" "crowd" "LNameRolls$Crowd;" ∈ UW := UW1_at 223 (by decide +kernel) rfl
theorem wd_f8_79 : Cond.fieldLink "NameRolls$Texts" 79 "NameRolls$Crowd" "day" "I" ∈ UW := UW1_at 74 (by decide +kernel) rfl
theorem wd_m8_114 : Cond.methodLink "NameRolls$Texts" 114 Lib.Math.min.name ∈ UW := UW5_at 26 (by decide +kernel) rfl
theorem wd_m8_117 : Cond.methodLink "NameRolls$Texts" 117 M_X9_countBroken.1 ∈ UW := UW5_at 27 (by decide +kernel) rfl
theorem wd_f8_120 : Cond.fieldLink "NameRolls$Texts" 120 "NameRolls$Person" "state" "I" ∈ UW := UW3_at 178 (by decide +kernel) rfl
theorem wd_f8_24 : Cond.fieldLink "NameRolls$Texts" 24 "NameRolls$Texts" "bodies" "[[B" ∈ UW := UW1_at 227 (by decide +kernel) rfl
theorem wd_f8_27 : Cond.fieldLink "NameRolls$Texts" 27 "NameRolls$Texts" "bodySize" "[I" ∈ UW := UW1_at 228 (by decide +kernel) rfl
theorem wd_m8_66 : Cond.methodLink "NameRolls$Texts" 66 M_X4_readAll.1 ∈ UW := UW4_at 115 (by decide +kernel) rfl
theorem wd_s4_readAll : Cond.selects M_X4_readAll.1.cls M_X4_readAll.1 M_X4_readAll.1 ∈ UW := UW4_at 117 (by decide +kernel) rfl
theorem wd_f8_123 : Cond.fieldLink "NameRolls$Texts" 123 "NameRolls$Person" "place" "I" ∈ UW := UW3_at 183 (by decide +kernel) rfl
theorem wd_m8_126 : Cond.methodLink "NameRolls$Texts" 126 M_X1_countIn.1 ∈ UW := UW5_at 28 (by decide +kernel) rfl
theorem wd_s1_countIn : Cond.selects M_X1_countIn.1.cls M_X1_countIn.1 M_X1_countIn.1 ∈ UW := UW5_at 30 (by decide +kernel) rfl
theorem wd_f8_142 : Cond.fieldLink "NameRolls$Texts" 142 "NameRolls$Person" "side" "I" ∈ UW := UW3_at 158 (by decide +kernel) rfl
theorem wd_m8_135 : Cond.methodLink "NameRolls$Texts" 135 M_X8_give.1 ∈ UW := UW5_at 20 (by decide +kernel) rfl
theorem wd_s8_give : Cond.selects M_X8_give.1.cls M_X8_give.1 M_X8_give.1 ∈ UW := UWp_at 20 (by decide +kernel) rfl
theorem wd_m8_130 : Cond.methodLink "NameRolls$Texts" 130 M_X1_get.1 ∈ UW := UW5_at 18 (by decide +kernel) rfl
theorem wd_m8_145 : Cond.methodLink "NameRolls$Texts" 145 M_X8_allowStay.1 ∈ UW := UW5_at 52 (by decide +kernel) rfl
theorem wd_s8_allowStay : Cond.selects M_X8_allowStay.1.cls M_X8_allowStay.1 M_X8_allowStay.1 ∈ UW := UW5_at 54 (by decide +kernel) rfl
theorem wd_m8_152 : Cond.methodLink "NameRolls$Texts" 152 M_X8_rate.1 ∈ UW := UW5_at 65 (by decide +kernel) rfl
theorem wd_s8_rate : Cond.selects M_X8_rate.1.cls M_X8_rate.1 M_X8_rate.1 ∈ UW := UW5_at 67 (by decide +kernel) rfl
theorem wd_f8_139 : Cond.fieldLink "NameRolls$Texts" 139 "NameRolls$Reader" "line" "I" ∈ UW := UW1_at 199 (by decide +kernel) rfl
theorem wd_c8_134 : Cond.constant "NameRolls$Texts" 134 (Int32.ofInt (-2000000000)) ∈ UW := UW5_at 19 (by decide +kernel) rfl
theorem wd_m11_148 : Cond.methodLink "NameRolls" 148 M_X8_tellSays.1 ∈ UW := UW5_at 14 (by decide +kernel) rfl
theorem wd_s8_tellSays : Cond.selects M_X8_tellSays.1.cls M_X8_tellSays.1 M_X8_tellSays.1 ∈ UW := UW5_at 16 (by decide +kernel) rfl
theorem wd_m11_151 : Cond.methodLink "NameRolls" 151 M_X8_tellOwed.1 ∈ UW := UW5_at 40 (by decide +kernel) rfl
theorem wd_s8_tellOwed : Cond.selects M_X8_tellOwed.1.cls M_X8_tellOwed.1 M_X8_tellOwed.1 ∈ UW := UW5_at 42 (by decide +kernel) rfl
theorem wd_m11_154 : Cond.methodLink "NameRolls" 154 M_X8_tellMayStay.1 ∈ UW := UW5_at 48 (by decide +kernel) rfl
theorem wd_s8_tellMayStay : Cond.selects M_X8_tellMayStay.1.cls M_X8_tellMayStay.1 M_X8_tellMayStay.1 ∈ UW := UW5_at 50 (by decide +kernel) rfl
theorem wd_m11_157 : Cond.methodLink "NameRolls" 157 M_X8_tellWorth.1 ∈ UW := UW5_at 60 (by decide +kernel) rfl
theorem wd_s8_tellWorth : Cond.selects M_X8_tellWorth.1.cls M_X8_tellWorth.1 M_X8_tellWorth.1 ∈ UW := UW5_at 62 (by decide +kernel) rfl
theorem r_8_give_0 : RL M_X8_give 0 1 1 := Or.inl ⟨1, by decide +kernel, rfl, rfl⟩
theorem r_8_give_1 : RB M_X8_give 1 (.ifCond .lt) 12 4 := ⟨11, by decide +kernel, rfl, rfl⟩
theorem r_8_give_12 : RC M_X8_give 12 0 13 := ⟨⟨by decide, by decide⟩, Or.inl ⟨by decide +kernel, rfl⟩⟩
theorem r_8_give_13 : RW M_X8_give 13 .ireturn 14 1 := ⟨by decide +kernel, rfl⟩
theorem r_8_give_4 : RL M_X8_give 4 1 5 := Or.inl ⟨1, by decide +kernel, rfl, rfl⟩
theorem r_8_give_5 : RA M_X8_give 5 0 6 := Or.inl ⟨0, by decide +kernel, rfl, rfl⟩
theorem r_8_give_6 : RG M_X8_give 6 8 0 9 := ⟨63, _, by decide +kernel, rfl, by decide, wd_f8_63, rfl, rfl⟩
theorem r_8_give_9 : RB M_X8_give 9 (.if_icmp .lt) 14 12 := ⟨5, by decide +kernel, rfl, rfl⟩
theorem r_8_give_14 : RA M_X8_give 14 0 15 := Or.inl ⟨0, by decide +kernel, rfl, rfl⟩
theorem r_8_give_15 : RG M_X8_give 15 8 4 18 := ⟨12, _, by decide +kernel, rfl, by decide, wd_f8_12, rfl, rfl⟩
theorem r_8_give_18 : RG M_X8_give 18 4 0 21 := ⟨88, _, by decide +kernel, rfl, by decide, wd_f8_88, rfl, rfl⟩
theorem r_8_give_21 : RT M_X8_give 21 6 23 := ⟨by decide, Or.inr ⟨by decide +kernel, rfl⟩⟩
theorem r_8_give_23 : RA M_X8_give 23 6 25 := Or.inr ⟨by decide +kernel, rfl⟩
theorem r_8_give_25 : RC M_X8_give 25 0 26 := ⟨⟨by decide, by decide⟩, Or.inl ⟨by decide +kernel, rfl⟩⟩
theorem r_8_give_26 : RA M_X8_give 26 2 27 := Or.inl ⟨2, by decide +kernel, rfl, rfl⟩
theorem r_8_give_27 : RG M_X8_give 27 3 1 30 := ⟨91, _, by decide +kernel, rfl, by decide, wd_f8_91, rfl, rfl⟩
theorem r_8_give_30 : RW M_X8_give 30 .iastore 31 1 := ⟨by decide +kernel, rfl⟩
theorem r_8_give_31 : RA M_X8_give 31 6 33 := Or.inr ⟨by decide +kernel, rfl⟩
theorem r_8_give_33 : RC M_X8_give 33 1 34 := ⟨⟨by decide, by decide⟩, Or.inl ⟨by decide +kernel, rfl⟩⟩
theorem r_8_give_34 : RA M_X8_give 34 0 35 := Or.inl ⟨0, by decide +kernel, rfl, rfl⟩
theorem r_8_give_35 : RG M_X8_give 35 8 3 38 := ⟨44, _, by decide +kernel, rfl, by decide, wd_f8_44, rfl, rfl⟩
theorem r_8_give_38 : RL M_X8_give 38 3 39 := Or.inl ⟨3, by decide +kernel, rfl, rfl⟩
theorem r_8_give_39 : RA M_X8_give 39 2 40 := Or.inl ⟨2, by decide +kernel, rfl, rfl⟩
theorem r_8_give_40 : RC M_X8_give 40 0 41 := ⟨⟨by decide, by decide⟩, Or.inl ⟨by decide +kernel, rfl⟩⟩
theorem r_8_give_41 : RL M_X8_give 41 5 43 := Or.inr ⟨by decide +kernel, rfl⟩
theorem r_8_give_43 : RKv M_X8_give M_X9_valueKnown 43 4 9 46 := ⟨98, by decide +kernel, wd_m8_98, ok_M_X9_valueKnown, wd_s9_valueKnown, rfl⟩
theorem r_8_give_46 : RW M_X8_give 46 .iastore 47 1 := ⟨by decide +kernel, rfl⟩
theorem r_8_give_47 : RA M_X8_give 47 6 49 := Or.inr ⟨by decide +kernel, rfl⟩
theorem r_8_give_49 : RC M_X8_give 49 2 50 := ⟨⟨by decide, by decide⟩, Or.inl ⟨by decide +kernel, rfl⟩⟩
theorem r_8_give_50 : RA M_X8_give 50 0 51 := Or.inl ⟨0, by decide +kernel, rfl, rfl⟩
theorem r_8_give_51 : RG M_X8_give 51 8 3 54 := ⟨44, _, by decide +kernel, rfl, by decide, wd_f8_44, rfl, rfl⟩
theorem r_8_give_54 : RL M_X8_give 54 3 55 := Or.inl ⟨3, by decide +kernel, rfl, rfl⟩
theorem r_8_give_55 : RA M_X8_give 55 2 56 := Or.inl ⟨2, by decide +kernel, rfl, rfl⟩
theorem r_8_give_56 : RC M_X8_give 56 1 57 := ⟨⟨by decide, by decide⟩, Or.inl ⟨by decide +kernel, rfl⟩⟩
theorem r_8_give_57 : RL M_X8_give 57 5 59 := Or.inr ⟨by decide +kernel, rfl⟩
theorem r_8_give_59 : RKv M_X8_give M_X9_valueKnown 59 4 9 62 := ⟨98, by decide +kernel, wd_m8_98, ok_M_X9_valueKnown, wd_s9_valueKnown, rfl⟩
theorem r_8_give_62 : RW M_X8_give 62 .iastore 63 1 := ⟨by decide +kernel, rfl⟩
theorem r_8_give_63 : RA M_X8_give 63 6 65 := Or.inr ⟨by decide +kernel, rfl⟩
theorem r_8_give_65 : RC M_X8_give 65 3 66 := ⟨⟨by decide, by decide⟩, Or.inl ⟨by decide +kernel, rfl⟩⟩
theorem r_8_give_66 : RA M_X8_give 66 0 67 := Or.inl ⟨0, by decide +kernel, rfl, rfl⟩
theorem r_8_give_67 : RG M_X8_give 67 8 3 70 := ⟨44, _, by decide +kernel, rfl, by decide, wd_f8_44, rfl, rfl⟩
theorem r_8_give_70 : RL M_X8_give 70 3 71 := Or.inl ⟨3, by decide +kernel, rfl, rfl⟩
theorem r_8_give_71 : RA M_X8_give 71 2 72 := Or.inl ⟨2, by decide +kernel, rfl, rfl⟩
theorem r_8_give_72 : RC M_X8_give 72 2 73 := ⟨⟨by decide, by decide⟩, Or.inl ⟨by decide +kernel, rfl⟩⟩
theorem r_8_give_73 : RL M_X8_give 73 5 75 := Or.inr ⟨by decide +kernel, rfl⟩
theorem r_8_give_75 : RKv M_X8_give M_X9_valueKnown 75 4 9 78 := ⟨98, by decide +kernel, wd_m8_98, ok_M_X9_valueKnown, wd_s9_valueKnown, rfl⟩
theorem r_8_give_78 : RW M_X8_give 78 .iastore 79 1 := ⟨by decide +kernel, rfl⟩
theorem r_8_give_79 : RA M_X8_give 79 6 81 := Or.inr ⟨by decide +kernel, rfl⟩
theorem r_8_give_81 : RC M_X8_give 81 4 82 := ⟨⟨by decide, by decide⟩, Or.inl ⟨by decide +kernel, rfl⟩⟩
theorem r_8_give_82 : RA M_X8_give 82 2 83 := Or.inl ⟨2, by decide +kernel, rfl, rfl⟩
theorem r_8_give_83 : RG M_X8_give 83 3 3 86 := ⟨102, _, by decide +kernel, rfl, by decide, wd_f8_102, rfl, rfl⟩
theorem r_8_give_86 : RW M_X8_give 86 .iastore 87 1 := ⟨by decide +kernel, rfl⟩
theorem r_8_give_87 : RA M_X8_give 87 6 89 := Or.inr ⟨by decide +kernel, rfl⟩
theorem r_8_give_89 : RC M_X8_give 89 5 90 := ⟨⟨by decide, by decide⟩, Or.inl ⟨by decide +kernel, rfl⟩⟩
theorem r_8_give_90 : RC M_X8_give 90 0 91 := ⟨⟨by decide, by decide⟩, Or.inl ⟨by decide +kernel, rfl⟩⟩
theorem r_8_give_91 : RL M_X8_give 91 4 93 := Or.inr ⟨by decide +kernel, rfl⟩
theorem r_8_give_93 : RA M_X8_give 93 2 94 := Or.inl ⟨2, by decide +kernel, rfl, rfl⟩
theorem r_8_give_94 : RG M_X8_give 94 3 5 97 := ⟨105, _, by decide +kernel, rfl, by decide, wd_f8_105, rfl, rfl⟩
theorem r_8_give_97 : RW M_X8_give 97 .isub 98 1 := ⟨by decide +kernel, rfl⟩
theorem r_8_give_98 : RKm M_X8_give 98 Lib.Math.max.name 101 := ⟨108, by decide +kernel, wd_m8_108, rfl⟩
theorem r_8_give_101 : RW M_X8_give 101 .iastore 102 1 := ⟨by decide +kernel, rfl⟩
theorem r_8_give_102 : RA M_X8_give 102 6 104 := Or.inr ⟨by decide +kernel, rfl⟩
theorem r_8_give_104 : RC M_X8_give 104 6 106 := ⟨⟨by decide, by decide⟩, Or.inr (Or.inl ⟨by decide +kernel, by decide, rfl⟩)⟩
theorem r_8_give_106 : RA M_X8_give 106 0 107 := Or.inl ⟨0, by decide +kernel, rfl, rfl⟩
theorem r_8_give_107 : RG M_X8_give 107 8 3 110 := ⟨44, _, by decide +kernel, rfl, by decide, wd_f8_44, rfl, rfl⟩
theorem r_8_give_110 : RC M_X8_give 110 1 111 := ⟨⟨by decide, by decide⟩, Or.inl ⟨by decide +kernel, rfl⟩⟩
theorem r_8_give_111 : RL M_X8_give 111 3 112 := Or.inl ⟨3, by decide +kernel, rfl, rfl⟩
theorem r_8_give_112 : RW M_X8_give 112 .isub 113 1 := ⟨by decide +kernel, rfl⟩
theorem r_8_give_113 : RL M_X8_give 113 4 115 := Or.inr ⟨by decide +kernel, rfl⟩
theorem r_8_give_115 : RA M_X8_give 115 0 116 := Or.inl ⟨0, by decide +kernel, rfl, rfl⟩
theorem r_8_give_116 : RG M_X8_give 116 8 2 119 := ⟨40, _, by decide +kernel, rfl, by decide, wd_f8_40, rfl, rfl⟩
theorem r_8_give_119 : RG M_X8_give 119 1 2 122 := ⟨79, _, by decide +kernel, rfl, by decide, wd_f8_79, rfl, rfl⟩
theorem r_8_give_122 : RKm M_X8_give 122 Lib.Math.min.name 125 := ⟨114, by decide +kernel, wd_m8_114, rfl⟩
theorem r_8_give_125 : RKv M_X8_give M_X9_countBroken 125 2 9 128 := ⟨117, by decide +kernel, wd_m8_117, ok_M_X9_countBroken, wd_s9_countBroken, rfl⟩
theorem r_8_give_128 : RW M_X8_give 128 .iastore 129 1 := ⟨by decide +kernel, rfl⟩
theorem r_8_give_129 : RA M_X8_give 129 2 130 := Or.inl ⟨2, by decide +kernel, rfl, rfl⟩
theorem r_8_give_130 : RG M_X8_give 130 3 8 133 := ⟨120, _, by decide +kernel, rfl, by decide, wd_f8_120, rfl, rfl⟩
theorem r_8_give_133 : RB M_X8_give 133 (.ifCond .ne) 140 136 := ⟨7, by decide +kernel, rfl, rfl⟩
theorem r_8_give_140 : RC M_X8_give 140 0 141 := ⟨⟨by decide, by decide⟩, Or.inl ⟨by decide +kernel, rfl⟩⟩
theorem r_8_give_141 : RS M_X8_give 141 7 143 := ⟨by decide, Or.inr ⟨by decide +kernel, rfl⟩⟩
theorem r_8_give_143 : RA M_X8_give 143 6 145 := Or.inr ⟨by decide +kernel, rfl⟩
theorem r_8_give_145 : RC M_X8_give 145 7 147 := ⟨⟨by decide, by decide⟩, Or.inr (Or.inl ⟨by decide +kernel, by decide, rfl⟩)⟩
theorem r_8_give_147 : RL M_X8_give 147 7 149 := Or.inr ⟨by decide +kernel, rfl⟩
theorem r_8_give_149 : RB M_X8_give 149 (.ifCond .eq) 167 152 := ⟨18, by decide +kernel, rfl, rfl⟩
theorem r_8_give_167 : RC M_X8_give 167 0 168 := ⟨⟨by decide, by decide⟩, Or.inl ⟨by decide +kernel, rfl⟩⟩
theorem r_8_give_168 : RW M_X8_give 168 .iastore 169 1 := ⟨by decide +kernel, rfl⟩
theorem r_8_give_169 : RA M_X8_give 169 6 171 := Or.inr ⟨by decide +kernel, rfl⟩
theorem r_8_give_171 : RC M_X8_give 171 8 173 := ⟨⟨by decide, by decide⟩, Or.inr (Or.inl ⟨by decide +kernel, by decide, rfl⟩)⟩
theorem r_8_give_173 : RL M_X8_give 173 7 175 := Or.inr ⟨by decide +kernel, rfl⟩
theorem r_8_give_175 : RB M_X8_give 175 (.ifCond .eq) 193 178 := ⟨18, by decide +kernel, rfl, rfl⟩
theorem r_8_give_193 : RC M_X8_give 193 0 194 := ⟨⟨by decide, by decide⟩, Or.inl ⟨by decide +kernel, rfl⟩⟩
theorem r_8_give_194 : RW M_X8_give 194 .iastore 195 1 := ⟨by decide +kernel, rfl⟩
theorem r_8_give_195 : RA M_X8_give 195 0 196 := Or.inl ⟨0, by decide +kernel, rfl, rfl⟩
theorem r_8_give_196 : RG M_X8_give 196 8 4 199 := ⟨12, _, by decide +kernel, rfl, by decide, wd_f8_12, rfl, rfl⟩
theorem r_8_give_199 : RA M_X8_give 199 0 200 := Or.inl ⟨0, by decide +kernel, rfl, rfl⟩
theorem r_8_give_200 : RG M_X8_give 200 8 6 203 := ⟨24, _, by decide +kernel, rfl, by decide, wd_f8_24, rfl, rfl⟩
theorem r_8_give_203 : RL M_X8_give 203 1 204 := Or.inl ⟨1, by decide +kernel, rfl, rfl⟩
theorem r_8_give_204 : RW M_X8_give 204 .aaload 205 1 := ⟨by decide +kernel, rfl⟩
theorem r_8_give_205 : RA M_X8_give 205 0 206 := Or.inl ⟨0, by decide +kernel, rfl, rfl⟩
theorem r_8_give_206 : RG M_X8_give 206 8 7 209 := ⟨27, _, by decide +kernel, rfl, by decide, wd_f8_27, rfl, rfl⟩
theorem r_8_give_209 : RL M_X8_give 209 1 210 := Or.inl ⟨1, by decide +kernel, rfl, rfl⟩
theorem r_8_give_210 : RW M_X8_give 210 .iaload 211 1 := ⟨by decide +kernel, rfl⟩
theorem r_8_give_211 : RKv M_X8_give M_X4_readAll 211 2 4 214 := ⟨66, by decide +kernel, wd_m8_66, ok_M_X4_readAll, wd_s4_readAll, rfl⟩
theorem r_8_give_214 : RW M_X8_give 214 .ireturn 215 1 := ⟨by decide +kernel, rfl⟩
theorem r_8_give_136 : RC M_X8_give 136 1 137 := ⟨⟨by decide, by decide⟩, Or.inl ⟨by decide +kernel, rfl⟩⟩
theorem r_8_give_137 : RB M_X8_give 137 .goto 141 140 := ⟨4, by decide +kernel, rfl, rfl⟩
theorem r_8_give_152 : RA M_X8_give 152 0 153 := Or.inl ⟨0, by decide +kernel, rfl, rfl⟩
theorem r_8_give_153 : RG M_X8_give 153 8 2 156 := ⟨40, _, by decide +kernel, rfl, by decide, wd_f8_40, rfl, rfl⟩
theorem r_8_give_156 : RA M_X8_give 156 2 157 := Or.inl ⟨2, by decide +kernel, rfl, rfl⟩
theorem r_8_give_157 : RG M_X8_give 157 3 10 160 := ⟨123, _, by decide +kernel, rfl, by decide, wd_f8_123, rfl, rfl⟩
theorem r_8_give_160 : RC M_X8_give 160 0 161 := ⟨⟨by decide, by decide⟩, Or.inl ⟨by decide +kernel, rfl⟩⟩
theorem r_8_give_161 : RKv M_X8_give M_X1_countIn 161 2 1 164 := ⟨126, by decide +kernel, wd_m8_126, ok_M_X1_countIn, wd_s1_countIn, rfl⟩
theorem r_8_give_164 : RB M_X8_give 164 .goto 168 167 := ⟨4, by decide +kernel, rfl, rfl⟩
theorem r_8_give_178 : RA M_X8_give 178 0 179 := Or.inl ⟨0, by decide +kernel, rfl, rfl⟩
theorem r_8_give_179 : RG M_X8_give 179 8 2 182 := ⟨40, _, by decide +kernel, rfl, by decide, wd_f8_40, rfl, rfl⟩
theorem r_8_give_182 : RA M_X8_give 182 2 183 := Or.inl ⟨2, by decide +kernel, rfl, rfl⟩
theorem r_8_give_183 : RG M_X8_give 183 3 10 186 := ⟨123, _, by decide +kernel, rfl, by decide, wd_f8_123, rfl, rfl⟩
theorem r_8_give_186 : RC M_X8_give 186 1 187 := ⟨⟨by decide, by decide⟩, Or.inl ⟨by decide +kernel, rfl⟩⟩
theorem r_8_give_187 : RKv M_X8_give M_X1_countIn 187 2 1 190 := ⟨126, by decide +kernel, wd_m8_126, ok_M_X1_countIn, wd_s1_countIn, rfl⟩
theorem r_8_give_190 : RB M_X8_give 190 .goto 194 193 := ⟨4, by decide +kernel, rfl, rfl⟩
theorem r_8_allowStay_0 : RA M_X8_allowStay 0 0 1 := Or.inl ⟨0, by decide +kernel, rfl, rfl⟩
theorem r_8_allowStay_1 : RG M_X8_allowStay 1 8 3 4 := ⟨44, _, by decide +kernel, rfl, by decide, wd_f8_44, rfl, rfl⟩
theorem r_8_allowStay_4 : RA M_X8_allowStay 4 1 5 := Or.inl ⟨1, by decide +kernel, rfl, rfl⟩
theorem r_8_allowStay_5 : RG M_X8_allowStay 5 3 2 8 := ⟨142, _, by decide +kernel, rfl, by decide, wd_f8_142, rfl, rfl⟩
theorem r_8_allowStay_8 : RA M_X8_allowStay 8 1 9 := Or.inl ⟨1, by decide +kernel, rfl, rfl⟩
theorem r_8_allowStay_9 : RC M_X8_allowStay 9 1 10 := ⟨⟨by decide, by decide⟩, Or.inl ⟨by decide +kernel, rfl⟩⟩
theorem r_8_allowStay_10 : RL M_X8_allowStay 10 3 11 := Or.inl ⟨3, by decide +kernel, rfl, rfl⟩
theorem r_8_allowStay_11 : RKv M_X8_allowStay M_X9_valueKnown 11 4 9 14 := ⟨98, by decide +kernel, wd_m8_98, ok_M_X9_valueKnown, wd_s9_valueKnown, rfl⟩
theorem r_8_allowStay_14 : RB M_X8_allowStay 14 (.ifCond .ne) 19 17 := ⟨5, by decide +kernel, rfl, rfl⟩
theorem r_8_allowStay_19 : RA M_X8_allowStay 19 0 20 := Or.inl ⟨0, by decide +kernel, rfl, rfl⟩
theorem r_8_allowStay_20 : RC M_X8_allowStay 20 11 22 := ⟨⟨by decide, by decide⟩, Or.inr (Or.inl ⟨by decide +kernel, by decide, rfl⟩)⟩
theorem r_8_allowStay_22 : RL M_X8_allowStay 22 2 23 := Or.inl ⟨2, by decide +kernel, rfl, rfl⟩
theorem r_8_allowStay_23 : RL M_X8_allowStay 23 3 24 := Or.inl ⟨3, by decide +kernel, rfl, rfl⟩
theorem r_8_allowStay_24 : RKv M_X8_allowStay M_X8_findInForce 24 3 8 27 := ⟨84, by decide +kernel, wd_m8_84, ok_M_X8_findInForce, wd_s8_findInForce, rfl⟩
theorem r_8_allowStay_27 : RS M_X8_allowStay 27 4 29 := ⟨by decide, Or.inr ⟨by decide +kernel, rfl⟩⟩
theorem r_8_allowStay_29 : RL M_X8_allowStay 29 4 31 := Or.inr ⟨by decide +kernel, rfl⟩
theorem r_8_allowStay_31 : RB M_X8_allowStay 31 (.ifCond .ge) 43 34 := ⟨12, by decide +kernel, rfl, rfl⟩
theorem r_8_allowStay_43 : RA M_X8_allowStay 43 0 44 := Or.inl ⟨0, by decide +kernel, rfl, rfl⟩
theorem r_8_allowStay_44 : RL M_X8_allowStay 44 4 46 := Or.inr ⟨by decide +kernel, rfl⟩
theorem r_8_allowStay_46 : RA M_X8_allowStay 46 1 47 := Or.inl ⟨1, by decide +kernel, rfl, rfl⟩
theorem r_8_allowStay_47 : RA M_X8_allowStay 47 1 48 := Or.inl ⟨1, by decide +kernel, rfl, rfl⟩
theorem r_8_allowStay_48 : RG M_X8_allowStay 48 3 2 51 := ⟨142, _, by decide +kernel, rfl, by decide, wd_f8_142, rfl, rfl⟩
theorem r_8_allowStay_51 : RL M_X8_allowStay 51 2 52 := Or.inl ⟨2, by decide +kernel, rfl, rfl⟩
theorem r_8_allowStay_52 : RL M_X8_allowStay 52 3 53 := Or.inl ⟨3, by decide +kernel, rfl, rfl⟩
theorem r_8_allowStay_53 : RKv M_X8_allowStay M_X8_give 53 5 8 56 := ⟨135, by decide +kernel, wd_m8_135, ok_M_X8_give, wd_s8_give, rfl⟩
theorem r_8_allowStay_56 : RB M_X8_allowStay 56 (.ifCond .eq) 63 59 := ⟨7, by decide +kernel, rfl, rfl⟩
theorem r_8_allowStay_63 : RC M_X8_allowStay 63 0 64 := ⟨⟨by decide, by decide⟩, Or.inl ⟨by decide +kernel, rfl⟩⟩
theorem r_8_allowStay_64 : RW M_X8_allowStay 64 .ireturn 65 1 := ⟨by decide +kernel, rfl⟩
theorem r_8_allowStay_59 : RC M_X8_allowStay 59 1 60 := ⟨⟨by decide, by decide⟩, Or.inl ⟨by decide +kernel, rfl⟩⟩
theorem r_8_allowStay_60 : RB M_X8_allowStay 60 .goto 64 63 := ⟨4, by decide +kernel, rfl, rfl⟩
theorem r_8_allowStay_34 : RA M_X8_allowStay 34 0 35 := Or.inl ⟨0, by decide +kernel, rfl, rfl⟩
theorem r_8_allowStay_35 : RC M_X8_allowStay 35 1 36 := ⟨⟨by decide, by decide⟩, Or.inl ⟨by decide +kernel, rfl⟩⟩
theorem r_8_allowStay_36 : RL M_X8_allowStay 36 2 37 := Or.inl ⟨2, by decide +kernel, rfl, rfl⟩
theorem r_8_allowStay_37 : RL M_X8_allowStay 37 3 38 := Or.inl ⟨3, by decide +kernel, rfl, rfl⟩
theorem r_8_allowStay_38 : RKv M_X8_allowStay M_X8_findInForce 38 3 8 41 := ⟨84, by decide +kernel, wd_m8_84, ok_M_X8_findInForce, wd_s8_findInForce, rfl⟩
theorem r_8_allowStay_41 : RS M_X8_allowStay 41 4 43 := ⟨by decide, Or.inr ⟨by decide +kernel, rfl⟩⟩
theorem r_8_allowStay_17 : RC M_X8_allowStay 17 0 18 := ⟨⟨by decide, by decide⟩, Or.inl ⟨by decide +kernel, rfl⟩⟩
theorem r_8_allowStay_18 : RW M_X8_allowStay 18 .ireturn 19 1 := ⟨by decide +kernel, rfl⟩
theorem r_8_rate_0 : RA M_X8_rate 0 0 1 := Or.inl ⟨0, by decide +kernel, rfl, rfl⟩
theorem r_8_rate_1 : RC M_X8_rate 1 10 3 := ⟨⟨by decide, by decide⟩, Or.inr (Or.inl ⟨by decide +kernel, by decide, rfl⟩)⟩
theorem r_8_rate_3 : RC M_X8_rate 3 2 4 := ⟨⟨by decide, by decide⟩, Or.inl ⟨by decide +kernel, rfl⟩⟩
theorem r_8_rate_4 : RL M_X8_rate 4 2 5 := Or.inl ⟨2, by decide +kernel, rfl, rfl⟩
theorem r_8_rate_5 : RW M_X8_rate 5 .iadd 6 1 := ⟨by decide +kernel, rfl⟩
theorem r_8_rate_6 : RW M_X8_rate 6 .imul 7 1 := ⟨by decide +kernel, rfl⟩
theorem r_8_rate_7 : RC M_X8_rate 7 2 8 := ⟨⟨by decide, by decide⟩, Or.inl ⟨by decide +kernel, rfl⟩⟩
theorem r_8_rate_8 : RW M_X8_rate 8 .iadd 9 1 := ⟨by decide +kernel, rfl⟩
theorem r_8_rate_9 : RL M_X8_rate 9 3 10 := Or.inl ⟨3, by decide +kernel, rfl, rfl⟩
theorem r_8_rate_10 : RL M_X8_rate 10 4 12 := Or.inr ⟨by decide +kernel, rfl⟩
theorem r_8_rate_12 : RKv M_X8_rate M_X8_findInForce 12 3 8 15 := ⟨84, by decide +kernel, wd_m8_84, ok_M_X8_findInForce, wd_s8_findInForce, rfl⟩
theorem r_8_rate_15 : RS M_X8_rate 15 5 17 := ⟨by decide, Or.inr ⟨by decide +kernel, rfl⟩⟩
theorem r_8_rate_17 : RL M_X8_rate 17 5 19 := Or.inr ⟨by decide +kernel, rfl⟩
theorem r_8_rate_19 : RB M_X8_rate 19 (.ifCond .ge) 26 22 := ⟨7, by decide +kernel, rfl, rfl⟩
theorem r_8_rate_26 : RC M_X8_rate 26 0 27 := ⟨⟨by decide, by decide⟩, Or.inl ⟨by decide +kernel, rfl⟩⟩
theorem r_8_rate_27 : RC M_X8_rate 27 999 30 := ⟨⟨by decide, by decide⟩, Or.inr (Or.inr (Or.inl ⟨by decide +kernel, by decide, rfl⟩))⟩
theorem r_8_rate_30 : RA M_X8_rate 30 0 31 := Or.inl ⟨0, by decide +kernel, rfl, rfl⟩
theorem r_8_rate_31 : RL M_X8_rate 31 5 33 := Or.inr ⟨by decide +kernel, rfl⟩
theorem r_8_rate_33 : RA M_X8_rate 33 1 34 := Or.inl ⟨1, by decide +kernel, rfl, rfl⟩
theorem r_8_rate_34 : RL M_X8_rate 34 2 35 := Or.inl ⟨2, by decide +kernel, rfl, rfl⟩
theorem r_8_rate_35 : RL M_X8_rate 35 3 36 := Or.inl ⟨3, by decide +kernel, rfl, rfl⟩
theorem r_8_rate_36 : RL M_X8_rate 36 4 38 := Or.inr ⟨by decide +kernel, rfl⟩
theorem r_8_rate_38 : RKv M_X8_rate M_X8_give 38 5 8 41 := ⟨135, by decide +kernel, wd_m8_135, ok_M_X8_give, wd_s8_give, rfl⟩
theorem r_8_rate_41 : RKm M_X8_rate 41 Lib.Math.min.name 44 := ⟨114, by decide +kernel, wd_m8_114, rfl⟩
theorem r_8_rate_44 : RKm M_X8_rate 44 Lib.Math.max.name 47 := ⟨108, by decide +kernel, wd_m8_108, rfl⟩
theorem r_8_rate_47 : RW M_X8_rate 47 .ireturn 48 1 := ⟨by decide +kernel, rfl⟩
theorem r_8_rate_22 : RC M_X8_rate 22 1 23 := ⟨⟨by decide, by decide⟩, Or.inl ⟨by decide +kernel, rfl⟩⟩
theorem r_8_rate_23 : RB M_X8_rate 23 .goto 47 26 := ⟨24, by decide +kernel, rfl, rfl⟩
theorem r_8_tellMayStay_0 : RA M_X8_tellMayStay 0 0 1 := Or.inl ⟨0, by decide +kernel, rfl, rfl⟩
theorem r_8_tellMayStay_1 : RG M_X8_tellMayStay 1 8 2 4 := ⟨40, _, by decide +kernel, rfl, by decide, wd_f8_40, rfl, rfl⟩
theorem r_8_tellMayStay_4 : RL M_X8_tellMayStay 4 1 5 := Or.inl ⟨1, by decide +kernel, rfl, rfl⟩
theorem r_8_tellMayStay_5 : RKv M_X8_tellMayStay M_X1_get 5 1 1 8 := ⟨130, by decide +kernel, wd_m8_130, ok_M_X1_get, wd_s1_get, rfl⟩
theorem r_8_tellMayStay_8 : RT M_X8_tellMayStay 8 4 10 := ⟨by decide, Or.inr ⟨by decide +kernel, rfl⟩⟩
theorem r_8_tellMayStay_10 : RA M_X8_tellMayStay 10 4 12 := Or.inr ⟨by decide +kernel, rfl⟩
theorem r_8_tellMayStay_12 : RB M_X8_tellMayStay 12 .ifnull 29 15 := ⟨17, by decide +kernel, rfl, rfl⟩
theorem r_8_tellMayStay_29 : RC M_X8_tellMayStay 29 (-1) 30 := ⟨⟨by decide, by decide⟩, Or.inl ⟨by decide +kernel, rfl⟩⟩
theorem r_8_tellMayStay_30 : RW M_X8_tellMayStay 30 .ireturn 31 1 := ⟨by decide +kernel, rfl⟩
theorem r_8_tellMayStay_15 : RL M_X8_tellMayStay 15 2 16 := Or.inl ⟨2, by decide +kernel, rfl, rfl⟩
theorem r_8_tellMayStay_16 : RKs M_X8_tellMayStay M_X11_isDay 16 1 19 := ⟨60, by decide +kernel, Or.inr (by decide +kernel), ok_M_X11_isDay, rfl⟩
theorem r_8_tellMayStay_19 : RB M_X8_tellMayStay 19 (.ifCond .eq) 29 22 := ⟨10, by decide +kernel, rfl, rfl⟩
theorem r_8_tellMayStay_22 : RL M_X8_tellMayStay 22 3 23 := Or.inl ⟨3, by decide +kernel, rfl, rfl⟩
theorem r_8_tellMayStay_23 : RKs M_X8_tellMayStay M_X11_isDay 23 1 26 := ⟨60, by decide +kernel, Or.inr (by decide +kernel), ok_M_X11_isDay, rfl⟩
theorem r_8_tellMayStay_26 : RB M_X8_tellMayStay 26 (.ifCond .ne) 31 29 := ⟨5, by decide +kernel, rfl, rfl⟩
theorem r_8_tellMayStay_31 : RA M_X8_tellMayStay 31 0 32 := Or.inl ⟨0, by decide +kernel, rfl, rfl⟩
theorem r_8_tellMayStay_32 : RA M_X8_tellMayStay 32 4 34 := Or.inr ⟨by decide +kernel, rfl⟩
theorem r_8_tellMayStay_34 : RL M_X8_tellMayStay 34 2 35 := Or.inl ⟨2, by decide +kernel, rfl, rfl⟩
theorem r_8_tellMayStay_35 : RL M_X8_tellMayStay 35 3 36 := Or.inl ⟨3, by decide +kernel, rfl, rfl⟩
theorem r_8_tellMayStay_36 : RKv M_X8_tellMayStay M_X8_allowStay 36 3 8 39 := ⟨145, by decide +kernel, wd_m8_145, ok_M_X8_allowStay, wd_s8_allowStay, rfl⟩
theorem r_8_tellMayStay_39 : RB M_X8_tellMayStay 39 (.ifCond .eq) 46 42 := ⟨7, by decide +kernel, rfl, rfl⟩
theorem r_8_tellMayStay_46 : RC M_X8_tellMayStay 46 0 47 := ⟨⟨by decide, by decide⟩, Or.inl ⟨by decide +kernel, rfl⟩⟩
theorem r_8_tellMayStay_47 : RW M_X8_tellMayStay 47 .ireturn 48 1 := ⟨by decide +kernel, rfl⟩
theorem r_8_tellMayStay_42 : RC M_X8_tellMayStay 42 1 43 := ⟨⟨by decide, by decide⟩, Or.inl ⟨by decide +kernel, rfl⟩⟩
theorem r_8_tellMayStay_43 : RB M_X8_tellMayStay 43 .goto 47 46 := ⟨4, by decide +kernel, rfl, rfl⟩
theorem r_8_tellWorth_0 : RA M_X8_tellWorth 0 0 1 := Or.inl ⟨0, by decide +kernel, rfl, rfl⟩
theorem r_8_tellWorth_1 : RG M_X8_tellWorth 1 8 2 4 := ⟨40, _, by decide +kernel, rfl, by decide, wd_f8_40, rfl, rfl⟩
theorem r_8_tellWorth_4 : RL M_X8_tellWorth 4 1 5 := Or.inl ⟨1, by decide +kernel, rfl, rfl⟩
theorem r_8_tellWorth_5 : RKv M_X8_tellWorth M_X1_get 5 1 1 8 := ⟨130, by decide +kernel, wd_m8_130, ok_M_X1_get, wd_s1_get, rfl⟩
theorem r_8_tellWorth_8 : RT M_X8_tellWorth 8 5 10 := ⟨by decide, Or.inr ⟨by decide +kernel, rfl⟩⟩
theorem r_8_tellWorth_10 : RA M_X8_tellWorth 10 5 12 := Or.inr ⟨by decide +kernel, rfl⟩
theorem r_8_tellWorth_12 : RB M_X8_tellWorth 12 .ifnull 37 15 := ⟨25, by decide +kernel, rfl, rfl⟩
theorem r_8_tellWorth_37 : RC M_X8_tellWorth 37 (-1) 38 := ⟨⟨by decide, by decide⟩, Or.inl ⟨by decide +kernel, rfl⟩⟩
theorem r_8_tellWorth_38 : RW M_X8_tellWorth 38 .ireturn 39 1 := ⟨by decide +kernel, rfl⟩
theorem r_8_tellWorth_15 : RL M_X8_tellWorth 15 2 16 := Or.inl ⟨2, by decide +kernel, rfl, rfl⟩
theorem r_8_tellWorth_16 : RKs M_X8_tellWorth M_X11_isSide 16 1 19 := ⟨149, by decide +kernel, Or.inr (by decide +kernel), ok_M_X11_isSide, rfl⟩
theorem r_8_tellWorth_19 : RB M_X8_tellWorth 19 (.ifCond .eq) 37 22 := ⟨18, by decide +kernel, rfl, rfl⟩
theorem r_8_tellWorth_22 : RL M_X8_tellWorth 22 3 23 := Or.inl ⟨3, by decide +kernel, rfl, rfl⟩
theorem r_8_tellWorth_23 : RKs M_X8_tellWorth M_X11_isDay 23 1 26 := ⟨60, by decide +kernel, Or.inr (by decide +kernel), ok_M_X11_isDay, rfl⟩
theorem r_8_tellWorth_26 : RB M_X8_tellWorth 26 (.ifCond .eq) 37 29 := ⟨11, by decide +kernel, rfl, rfl⟩
theorem r_8_tellWorth_29 : RL M_X8_tellWorth 29 4 31 := Or.inr ⟨by decide +kernel, rfl⟩
theorem r_8_tellWorth_31 : RKs M_X8_tellWorth M_X11_isDay 31 1 34 := ⟨60, by decide +kernel, Or.inr (by decide +kernel), ok_M_X11_isDay, rfl⟩
theorem r_8_tellWorth_34 : RB M_X8_tellWorth 34 (.ifCond .ne) 39 37 := ⟨5, by decide +kernel, rfl, rfl⟩
theorem r_8_tellWorth_39 : RA M_X8_tellWorth 39 0 40 := Or.inl ⟨0, by decide +kernel, rfl, rfl⟩
theorem r_8_tellWorth_40 : RA M_X8_tellWorth 40 5 42 := Or.inr ⟨by decide +kernel, rfl⟩
theorem r_8_tellWorth_42 : RL M_X8_tellWorth 42 2 43 := Or.inl ⟨2, by decide +kernel, rfl, rfl⟩
theorem r_8_tellWorth_43 : RL M_X8_tellWorth 43 3 44 := Or.inl ⟨3, by decide +kernel, rfl, rfl⟩
theorem r_8_tellWorth_44 : RL M_X8_tellWorth 44 4 46 := Or.inr ⟨by decide +kernel, rfl⟩
theorem r_8_tellWorth_46 : RKv M_X8_tellWorth M_X8_rate 46 4 8 49 := ⟨152, by decide +kernel, wd_m8_152, ok_M_X8_rate, wd_s8_rate, rfl⟩
theorem r_8_tellWorth_49 : RW M_X8_tellWorth 49 .ireturn 50 1 := ⟨by decide +kernel, rfl⟩
theorem r_8_tellOwed_0 : RA M_X8_tellOwed 0 0 1 := Or.inl ⟨0, by decide +kernel, rfl, rfl⟩
theorem r_8_tellOwed_1 : RG M_X8_tellOwed 1 8 2 4 := ⟨40, _, by decide +kernel, rfl, by decide, wd_f8_40, rfl, rfl⟩
theorem r_8_tellOwed_4 : RL M_X8_tellOwed 4 1 5 := Or.inl ⟨1, by decide +kernel, rfl, rfl⟩
theorem r_8_tellOwed_5 : RKv M_X8_tellOwed M_X1_get 5 1 1 8 := ⟨130, by decide +kernel, wd_m8_130, ok_M_X1_get, wd_s1_get, rfl⟩
theorem r_8_tellOwed_8 : RT M_X8_tellOwed 8 4 10 := ⟨by decide, Or.inr ⟨by decide +kernel, rfl⟩⟩
theorem r_8_tellOwed_10 : RA M_X8_tellOwed 10 4 12 := Or.inr ⟨by decide +kernel, rfl⟩
theorem r_8_tellOwed_12 : RB M_X8_tellOwed 12 .ifnull 29 15 := ⟨17, by decide +kernel, rfl, rfl⟩
theorem r_8_tellOwed_29 : RC M_X8_tellOwed 29 (-1) 30 := ⟨⟨by decide, by decide⟩, Or.inl ⟨by decide +kernel, rfl⟩⟩
theorem r_8_tellOwed_30 : RW M_X8_tellOwed 30 .ireturn 31 1 := ⟨by decide +kernel, rfl⟩
theorem r_8_tellOwed_15 : RL M_X8_tellOwed 15 2 16 := Or.inl ⟨2, by decide +kernel, rfl, rfl⟩
theorem r_8_tellOwed_16 : RKs M_X8_tellOwed M_X11_isDay 16 1 19 := ⟨60, by decide +kernel, Or.inr (by decide +kernel), ok_M_X11_isDay, rfl⟩
theorem r_8_tellOwed_19 : RB M_X8_tellOwed 19 (.ifCond .eq) 29 22 := ⟨10, by decide +kernel, rfl, rfl⟩
theorem r_8_tellOwed_22 : RL M_X8_tellOwed 22 3 23 := Or.inl ⟨3, by decide +kernel, rfl, rfl⟩
theorem r_8_tellOwed_23 : RKs M_X8_tellOwed M_X11_isDay 23 1 26 := ⟨60, by decide +kernel, Or.inr (by decide +kernel), ok_M_X11_isDay, rfl⟩
theorem r_8_tellOwed_26 : RB M_X8_tellOwed 26 (.ifCond .ne) 31 29 := ⟨5, by decide +kernel, rfl, rfl⟩
theorem r_8_tellOwed_31 : RC M_X8_tellOwed 31 0 32 := ⟨⟨by decide, by decide⟩, Or.inl ⟨by decide +kernel, rfl⟩⟩
theorem r_8_tellOwed_32 : RS M_X8_tellOwed 32 5 34 := ⟨by decide, Or.inr ⟨by decide +kernel, rfl⟩⟩
theorem r_8_tellOwed_34 : RL M_X8_tellOwed 34 5 36 := Or.inr ⟨by decide +kernel, rfl⟩
theorem r_8_tellOwed_36 : RC M_X8_tellOwed 36 2 37 := ⟨⟨by decide, by decide⟩, Or.inl ⟨by decide +kernel, rfl⟩⟩
theorem r_8_tellOwed_37 : RB M_X8_tellOwed 37 (.if_icmp .ge) 95 40 := ⟨58, by decide +kernel, rfl, rfl⟩
theorem r_8_tellOwed_40 : RA M_X8_tellOwed 40 0 41 := Or.inl ⟨0, by decide +kernel, rfl, rfl⟩
theorem r_8_tellOwed_41 : RC M_X8_tellOwed 41 10 43 := ⟨⟨by decide, by decide⟩, Or.inr (Or.inl ⟨by decide +kernel, by decide, rfl⟩)⟩
theorem r_8_tellOwed_43 : RL M_X8_tellOwed 43 5 45 := Or.inr ⟨by decide +kernel, rfl⟩
theorem r_8_tellOwed_45 : RW M_X8_tellOwed 45 .imul 46 1 := ⟨by decide +kernel, rfl⟩
theorem r_8_tellOwed_46 : RC M_X8_tellOwed 46 0 47 := ⟨⟨by decide, by decide⟩, Or.inl ⟨by decide +kernel, rfl⟩⟩
theorem r_8_tellOwed_47 : RW M_X8_tellOwed 47 .iadd 48 1 := ⟨by decide +kernel, rfl⟩
theorem r_8_tellOwed_48 : RL M_X8_tellOwed 48 2 49 := Or.inl ⟨2, by decide +kernel, rfl, rfl⟩
theorem r_8_tellOwed_49 : RL M_X8_tellOwed 49 3 50 := Or.inl ⟨3, by decide +kernel, rfl, rfl⟩
theorem r_8_tellOwed_50 : RKv M_X8_tellOwed M_X8_findInForce 50 3 8 53 := ⟨84, by decide +kernel, wd_m8_84, ok_M_X8_findInForce, wd_s8_findInForce, rfl⟩
theorem r_8_tellOwed_53 : RS M_X8_tellOwed 53 6 55 := ⟨by decide, Or.inr ⟨by decide +kernel, rfl⟩⟩
theorem r_8_tellOwed_55 : RA M_X8_tellOwed 55 0 56 := Or.inl ⟨0, by decide +kernel, rfl, rfl⟩
theorem r_8_tellOwed_56 : RL M_X8_tellOwed 56 6 58 := Or.inr ⟨by decide +kernel, rfl⟩
theorem r_8_tellOwed_58 : RA M_X8_tellOwed 58 4 60 := Or.inr ⟨by decide +kernel, rfl⟩
theorem r_8_tellOwed_60 : RA M_X8_tellOwed 60 4 62 := Or.inr ⟨by decide +kernel, rfl⟩
theorem r_8_tellOwed_62 : RG M_X8_tellOwed 62 3 2 65 := ⟨142, _, by decide +kernel, rfl, by decide, wd_f8_142, rfl, rfl⟩
theorem r_8_tellOwed_65 : RL M_X8_tellOwed 65 2 66 := Or.inl ⟨2, by decide +kernel, rfl, rfl⟩
theorem r_8_tellOwed_66 : RL M_X8_tellOwed 66 3 67 := Or.inl ⟨3, by decide +kernel, rfl, rfl⟩
theorem r_8_tellOwed_67 : RKv M_X8_tellOwed M_X8_give 67 5 8 70 := ⟨135, by decide +kernel, wd_m8_135, ok_M_X8_give, wd_s8_give, rfl⟩
theorem r_8_tellOwed_70 : RB M_X8_tellOwed 70 (.ifCond .eq) 89 73 := ⟨19, by decide +kernel, rfl, rfl⟩
theorem r_8_tellOwed_89 : RI M_X8_tellOwed 89 5 1 92 := ⟨by decide, by decide +kernel, rfl⟩
theorem r_8_tellOwed_92 : RB M_X8_tellOwed 92 .goto 34 95 := ⟨(-58), by decide +kernel, rfl, rfl⟩
theorem r_8_tellOwed_95 : RC M_X8_tellOwed 95 0 96 := ⟨⟨by decide, by decide⟩, Or.inl ⟨by decide +kernel, rfl⟩⟩
theorem r_8_tellOwed_96 : RW M_X8_tellOwed 96 .ireturn 97 1 := ⟨by decide +kernel, rfl⟩
theorem r_8_tellOwed_73 : RC M_X8_tellOwed 73 100 75 := ⟨⟨by decide, by decide⟩, Or.inr (Or.inl ⟨by decide +kernel, by decide, rfl⟩)⟩
theorem r_8_tellOwed_75 : RL M_X8_tellOwed 75 5 77 := Or.inr ⟨by decide +kernel, rfl⟩
theorem r_8_tellOwed_77 : RC M_X8_tellOwed 77 1 78 := ⟨⟨by decide, by decide⟩, Or.inl ⟨by decide +kernel, rfl⟩⟩
theorem r_8_tellOwed_78 : RW M_X8_tellOwed 78 .iadd 79 1 := ⟨by decide +kernel, rfl⟩
theorem r_8_tellOwed_79 : RW M_X8_tellOwed 79 .imul 80 1 := ⟨by decide +kernel, rfl⟩
theorem r_8_tellOwed_80 : RA M_X8_tellOwed 80 0 81 := Or.inl ⟨0, by decide +kernel, rfl, rfl⟩
theorem r_8_tellOwed_81 : RG M_X8_tellOwed 81 8 4 84 := ⟨12, _, by decide +kernel, rfl, by decide, wd_f8_12, rfl, rfl⟩
theorem r_8_tellOwed_84 : RG M_X8_tellOwed 84 4 2 87 := ⟨139, _, by decide +kernel, rfl, by decide, wd_f8_139, rfl, rfl⟩
theorem r_8_tellOwed_87 : RW M_X8_tellOwed 87 .iadd 88 1 := ⟨by decide +kernel, rfl⟩
theorem r_8_tellOwed_88 : RW M_X8_tellOwed 88 .ireturn 89 1 := ⟨by decide +kernel, rfl⟩
theorem r_8_tellSays_0 : RA M_X8_tellSays 0 0 1 := Or.inl ⟨0, by decide +kernel, rfl, rfl⟩
theorem r_8_tellSays_1 : RG M_X8_tellSays 1 8 2 4 := ⟨40, _, by decide +kernel, rfl, by decide, wd_f8_40, rfl, rfl⟩
theorem r_8_tellSays_4 : RL M_X8_tellSays 4 2 5 := Or.inl ⟨2, by decide +kernel, rfl, rfl⟩
theorem r_8_tellSays_5 : RKv M_X8_tellSays M_X1_get 5 1 1 8 := ⟨130, by decide +kernel, wd_m8_130, ok_M_X1_get, wd_s1_get, rfl⟩
theorem r_8_tellSays_8 : RT M_X8_tellSays 8 6 10 := ⟨by decide, Or.inr ⟨by decide +kernel, rfl⟩⟩
theorem r_8_tellSays_10 : RL M_X8_tellSays 10 1 11 := Or.inl ⟨1, by decide +kernel, rfl, rfl⟩
theorem r_8_tellSays_11 : RB M_X8_tellSays 11 (.ifCond .lt) 43 14 := ⟨32, by decide +kernel, rfl, rfl⟩
theorem r_8_tellSays_43 : RC M_X8_tellSays 43 (-2000000000) 45 := ⟨⟨by decide, by decide⟩, Or.inr (Or.inr (Or.inr (Or.inl ⟨134, by decide +kernel, wd_c8_134, rfl⟩)))⟩
theorem r_8_tellSays_45 : RW M_X8_tellSays 45 .ireturn 46 1 := ⟨by decide +kernel, rfl⟩
theorem r_8_tellSays_14 : RL M_X8_tellSays 14 1 15 := Or.inl ⟨1, by decide +kernel, rfl, rfl⟩
theorem r_8_tellSays_15 : RA M_X8_tellSays 15 0 16 := Or.inl ⟨0, by decide +kernel, rfl, rfl⟩
theorem r_8_tellSays_16 : RG M_X8_tellSays 16 8 0 19 := ⟨63, _, by decide +kernel, rfl, by decide, wd_f8_63, rfl, rfl⟩
theorem r_8_tellSays_19 : RB M_X8_tellSays 19 (.if_icmp .ge) 43 22 := ⟨24, by decide +kernel, rfl, rfl⟩
theorem r_8_tellSays_22 : RA M_X8_tellSays 22 6 24 := Or.inr ⟨by decide +kernel, rfl⟩
theorem r_8_tellSays_24 : RB M_X8_tellSays 24 .ifnull 43 27 := ⟨19, by decide +kernel, rfl, rfl⟩
theorem r_8_tellSays_27 : RL M_X8_tellSays 27 4 29 := Or.inr ⟨by decide +kernel, rfl⟩
theorem r_8_tellSays_29 : RKs M_X8_tellSays M_X11_isDay 29 1 32 := ⟨60, by decide +kernel, Or.inr (by decide +kernel), ok_M_X11_isDay, rfl⟩
theorem r_8_tellSays_32 : RB M_X8_tellSays 32 (.ifCond .eq) 43 35 := ⟨11, by decide +kernel, rfl, rfl⟩
theorem r_8_tellSays_35 : RL M_X8_tellSays 35 5 37 := Or.inr ⟨by decide +kernel, rfl⟩
theorem r_8_tellSays_37 : RKs M_X8_tellSays M_X11_isDay 37 1 40 := ⟨60, by decide +kernel, Or.inr (by decide +kernel), ok_M_X11_isDay, rfl⟩
theorem r_8_tellSays_40 : RB M_X8_tellSays 40 (.ifCond .ne) 46 43 := ⟨6, by decide +kernel, rfl, rfl⟩
theorem r_8_tellSays_46 : RL M_X8_tellSays 46 3 47 := Or.inl ⟨3, by decide +kernel, rfl, rfl⟩
theorem r_8_tellSays_47 : RLS M_X8_tellSays 47 [(0, 88), (1, 104), (10, 88), (11, 104)] 128 := ⟨81, #[(0, 41), (1, 57), (10, 41), (11, 57)], 41, by decide +kernel, by decide, rfl, by decide⟩
theorem r_8_tellSays_88 : RA M_X8_tellSays 88 0 89 := Or.inl ⟨0, by decide +kernel, rfl, rfl⟩
theorem r_8_tellSays_89 : RL M_X8_tellSays 89 1 90 := Or.inl ⟨1, by decide +kernel, rfl, rfl⟩
theorem r_8_tellSays_90 : RA M_X8_tellSays 90 6 92 := Or.inr ⟨by decide +kernel, rfl⟩
theorem r_8_tellSays_92 : RL M_X8_tellSays 92 3 93 := Or.inl ⟨3, by decide +kernel, rfl, rfl⟩
theorem r_8_tellSays_93 : RC M_X8_tellSays 93 10 95 := ⟨⟨by decide, by decide⟩, Or.inr (Or.inl ⟨by decide +kernel, by decide, rfl⟩)⟩
theorem r_8_tellSays_95 : RW M_X8_tellSays 95 .idiv 96 1 := ⟨by decide +kernel, rfl⟩
theorem r_8_tellSays_96 : RL M_X8_tellSays 96 4 98 := Or.inr ⟨by decide +kernel, rfl⟩
theorem r_8_tellSays_98 : RL M_X8_tellSays 98 5 100 := Or.inr ⟨by decide +kernel, rfl⟩
theorem r_8_tellSays_100 : RKv M_X8_tellSays M_X8_give 100 5 8 103 := ⟨135, by decide +kernel, wd_m8_135, ok_M_X8_give, wd_s8_give, rfl⟩
theorem r_8_tellSays_103 : RW M_X8_tellSays 103 .ireturn 104 1 := ⟨by decide +kernel, rfl⟩
theorem r_8_tellSays_104 : RA M_X8_tellSays 104 0 105 := Or.inl ⟨0, by decide +kernel, rfl, rfl⟩
theorem r_8_tellSays_105 : RL M_X8_tellSays 105 1 106 := Or.inl ⟨1, by decide +kernel, rfl, rfl⟩
theorem r_8_tellSays_106 : RA M_X8_tellSays 106 6 108 := Or.inr ⟨by decide +kernel, rfl⟩
theorem r_8_tellSays_108 : RL M_X8_tellSays 108 3 109 := Or.inl ⟨3, by decide +kernel, rfl, rfl⟩
theorem r_8_tellSays_109 : RC M_X8_tellSays 109 10 111 := ⟨⟨by decide, by decide⟩, Or.inr (Or.inl ⟨by decide +kernel, by decide, rfl⟩)⟩
theorem r_8_tellSays_111 : RW M_X8_tellSays 111 .idiv 112 1 := ⟨by decide +kernel, rfl⟩
theorem r_8_tellSays_112 : RL M_X8_tellSays 112 4 114 := Or.inr ⟨by decide +kernel, rfl⟩
theorem r_8_tellSays_114 : RL M_X8_tellSays 114 5 116 := Or.inr ⟨by decide +kernel, rfl⟩
theorem r_8_tellSays_116 : RKv M_X8_tellSays M_X8_give 116 5 8 119 := ⟨135, by decide +kernel, wd_m8_135, ok_M_X8_give, wd_s8_give, rfl⟩
theorem r_8_tellSays_119 : RW M_X8_tellSays 119 .pop 120 1 := ⟨by decide +kernel, rfl⟩
theorem r_8_tellSays_120 : RA M_X8_tellSays 120 0 121 := Or.inl ⟨0, by decide +kernel, rfl, rfl⟩
theorem r_8_tellSays_121 : RG M_X8_tellSays 121 8 4 124 := ⟨12, _, by decide +kernel, rfl, by decide, wd_f8_12, rfl, rfl⟩
theorem r_8_tellSays_124 : RG M_X8_tellSays 124 4 2 127 := ⟨139, _, by decide +kernel, rfl, by decide, wd_f8_139, rfl, rfl⟩
theorem r_8_tellSays_127 : RW M_X8_tellSays 127 .ireturn 128 1 := ⟨by decide +kernel, rfl⟩
theorem r_8_tellSays_128 : RC M_X8_tellSays 128 (-2000000000) 130 := ⟨⟨by decide, by decide⟩, Or.inr (Or.inr (Or.inr (Or.inl ⟨134, by decide +kernel, wd_c8_134, rfl⟩)))⟩
theorem r_8_tellSays_130 : RW M_X8_tellSays 130 .ireturn 131 1 := ⟨by decide +kernel, rfl⟩
theorem r_11_says_0 : RA M_X11_says 0 0 1 := Or.inl ⟨0, by decide +kernel, rfl, rfl⟩
theorem r_11_says_1 : RG M_X11_says 1 11 3 4 := ⟨39, _, by decide +kernel, rfl, by decide, wd_f11_39, rfl, rfl⟩
theorem r_11_says_4 : RL M_X11_says 4 1 5 := Or.inl ⟨1, by decide +kernel, rfl, rfl⟩
theorem r_11_says_5 : RL M_X11_says 5 2 6 := Or.inl ⟨2, by decide +kernel, rfl, rfl⟩
theorem r_11_says_6 : RL M_X11_says 6 3 7 := Or.inl ⟨3, by decide +kernel, rfl, rfl⟩
theorem r_11_says_7 : RL M_X11_says 7 4 9 := Or.inr ⟨by decide +kernel, rfl⟩
theorem r_11_says_9 : RL M_X11_says 9 5 11 := Or.inr ⟨by decide +kernel, rfl⟩
theorem r_11_says_11 : RKv M_X11_says M_X8_tellSays 11 5 8 14 := ⟨148, by decide +kernel, wd_m11_148, ok_M_X8_tellSays, wd_s8_tellSays, rfl⟩
theorem r_11_says_14 : RW M_X11_says 14 .ireturn 15 1 := ⟨by decide +kernel, rfl⟩
theorem r_11_owed_0 : RA M_X11_owed 0 0 1 := Or.inl ⟨0, by decide +kernel, rfl, rfl⟩
theorem r_11_owed_1 : RG M_X11_owed 1 11 3 4 := ⟨39, _, by decide +kernel, rfl, by decide, wd_f11_39, rfl, rfl⟩
theorem r_11_owed_4 : RL M_X11_owed 4 1 5 := Or.inl ⟨1, by decide +kernel, rfl, rfl⟩
theorem r_11_owed_5 : RL M_X11_owed 5 2 6 := Or.inl ⟨2, by decide +kernel, rfl, rfl⟩
theorem r_11_owed_6 : RL M_X11_owed 6 3 7 := Or.inl ⟨3, by decide +kernel, rfl, rfl⟩
theorem r_11_owed_7 : RKv M_X11_owed M_X8_tellOwed 7 3 8 10 := ⟨151, by decide +kernel, wd_m11_151, ok_M_X8_tellOwed, wd_s8_tellOwed, rfl⟩
theorem r_11_owed_10 : RW M_X11_owed 10 .ireturn 11 1 := ⟨by decide +kernel, rfl⟩
theorem r_11_mayStay_0 : RA M_X11_mayStay 0 0 1 := Or.inl ⟨0, by decide +kernel, rfl, rfl⟩
theorem r_11_mayStay_1 : RG M_X11_mayStay 1 11 3 4 := ⟨39, _, by decide +kernel, rfl, by decide, wd_f11_39, rfl, rfl⟩
theorem r_11_mayStay_4 : RL M_X11_mayStay 4 1 5 := Or.inl ⟨1, by decide +kernel, rfl, rfl⟩
theorem r_11_mayStay_5 : RL M_X11_mayStay 5 2 6 := Or.inl ⟨2, by decide +kernel, rfl, rfl⟩
theorem r_11_mayStay_6 : RL M_X11_mayStay 6 3 7 := Or.inl ⟨3, by decide +kernel, rfl, rfl⟩
theorem r_11_mayStay_7 : RKv M_X11_mayStay M_X8_tellMayStay 7 3 8 10 := ⟨154, by decide +kernel, wd_m11_154, ok_M_X8_tellMayStay, wd_s8_tellMayStay, rfl⟩
theorem r_11_mayStay_10 : RW M_X11_mayStay 10 .ireturn 11 1 := ⟨by decide +kernel, rfl⟩
theorem r_11_worth_0 : RA M_X11_worth 0 0 1 := Or.inl ⟨0, by decide +kernel, rfl, rfl⟩
theorem r_11_worth_1 : RG M_X11_worth 1 11 3 4 := ⟨39, _, by decide +kernel, rfl, by decide, wd_f11_39, rfl, rfl⟩
theorem r_11_worth_4 : RL M_X11_worth 4 1 5 := Or.inl ⟨1, by decide +kernel, rfl, rfl⟩
theorem r_11_worth_5 : RL M_X11_worth 5 2 6 := Or.inl ⟨2, by decide +kernel, rfl, rfl⟩
theorem r_11_worth_6 : RL M_X11_worth 6 3 7 := Or.inl ⟨3, by decide +kernel, rfl, rfl⟩
theorem r_11_worth_7 : RL M_X11_worth 7 4 9 := Or.inr ⟨by decide +kernel, rfl⟩
theorem r_11_worth_9 : RKv M_X11_worth M_X8_tellWorth 9 4 8 12 := ⟨157, by decide +kernel, wd_m11_157, ok_M_X8_tellWorth, wd_s8_tellWorth, rfl⟩
theorem r_11_worth_12 : RW M_X11_worth 12 .ireturn 13 1 := ⟨by decide +kernel, rfl⟩
set_option maxRecDepth 10000 in
theorem sp_X8_give {l : Launch} {w : Wo} {d : Nat} {G : PH} {P : Option PV → PH → Prop} {t p z d0 k : Int} {SD : Int → Int → Int → Int → Int → Int × Int} {FC : Int → Int → Int → Int} {KC : Int → Int → Int → Int → Int} (hp : ∀ i, 0 ≤ i → i < (gF G 1 0 1) → gD G 30 0 i = some (3, i)) (hsz : 0 ≤ (gF G 1 0 1) ∧ (gF G 1 0 1) ≤ 150) (hf : 0 ≤ (gF G 9 0 0) ∧ (gF G 9 0 0) ≤ 300) (hpr : 0 ≤ (gF G 9 0 2) ∧ (gF G 9 0 2) ≤ 40) (htx : 0 ≤ (gF G 8 0 0) ∧ (gF G 8 0 0) ≤ 20) (hTX : txC G) (hSD : sdC G = SD) (hFC : fcC G = FC) (hKC : kC G = KC) (hnum : (gF G 3 (p) 0) = p) (hcm : 0 ≤ (gF G 3 (p) 5) ∧ (gF G 3 (p) 5) ≤ 600) (hz : 0 ≤ z ∧ z ≤ 1) (hd0 : 0 ≤ d0 ∧ d0 ≤ 600) (ht : t < (gF G 8 0 0)) (h0 : t < 0 → P (some (vI 0)) G) (h1 : 0 ≤ t → ∀ q : RQ, q.2.2.2.1 = (SD t z p d0 k).1 → P (some (vI ((SD t z p d0 k).2))) (rstC G q)) : PW l w M_X8_give (d + 126) 0 [some (vR 8 (0)), some (vI (t)), some (vR 3 (p)), some (vI (z)), some (vI (d0)), some (vI (k)), none, none] [] G P := by
  refine pw_iload r_8_give_0 rfl ?_
  refine pw_if_lt r_8_give_1 (fun h01 => ?_) (fun h01 => ?_)
  · skip
    refine pw_const r_8_give_12 ?_
    refine pw_iret r_8_give_13 rfl (Nat.le_refl _) ⟨rfl, ?_⟩
    exact h0 (by omega)
  · skip
    refine pw_iload r_8_give_4 rfl ?_
    refine pw_aload r_8_give_5 rfl ?_
    refine pw_getI r_8_give_6 fs_8_0 (by decide) ?_
    refine pw_icmp_lt r_8_give_9 (fun h09 => ?_) (fun h09 => absurd h09 (by omega))
    refine pw_aload r_8_give_14 rfl ?_
    refine pw_getR r_8_give_15 fs_8_4 (by decide) ?_
    refine pw_getR r_8_give_18 fs_4_0 (by decide) ?_
    refine pw_astore (ls' := [some (vR 8 (0)), some (vI (t)), some (vR 3 (p)), some (vI (z)), some (vI (d0)), some (vI (k)), some (vR 46 (0)), none]) r_8_give_21 rfl rfl ?_
    refine pw_aload r_8_give_23 rfl ?_
    refine pw_const r_8_give_25 ?_
    refine pw_aload r_8_give_26 rfl ?_
    refine pw_getI r_8_give_27 fs_3_1 (by decide) ?_
    refine pw_iast r_8_give_30 sh46 (by omega) (by omega) ?_
    refine pw_aload r_8_give_31 rfl ?_
    refine pw_const r_8_give_33 ?_
    refine pw_aload r_8_give_34 rfl ?_
    refine pw_getR r_8_give_35 fs_8_3 (by decide) ?_
    refine pw_iload r_8_give_38 rfl ?_
    refine pw_aload r_8_give_39 rfl ?_
    refine pw_const r_8_give_40 ?_
    refine pw_iload r_8_give_41 rfl ?_
    refine pw_callV (av := [vI (z), vR 3 (p), vI (0), vI (k)]) (st := [vI (1), vR 46 (0)]) (ls0 := [some (vR 9 (0)), some (vI (z)), some (vR 3 (p)), some (vI (0)), some (vI (k)), none, none, none]) r_8_give_43 rfl rfl rfl (Nat.le_refl _) ?_
    refine sp_X9_valueKnown (by first | assumption | exact hf | omega) (by first | assumption | exact hnum | omega) ?_
    refine pw_top (b := lastOf (fun i => ((gA G 83 (0) (i)) = p ∧ (gA G 84 (0) (i)) = (0 : Int) ∧ (((((0 : Int) = 2 ∧ z ≠ (gF G 3 (p) 2)) ∨ ((0 : Int) ≠ 2 ∧ z = (gF G 3 (p) 2))) ∧ (gA G 86 (0) (i)) ≤ k) ∨ (¬ (((0 : Int) = 2 ∧ z ≠ (gF G 3 (p) 2)) ∨ ((0 : Int) ≠ 2 ∧ z = (gF G 3 (p) 2))) ∧ (gA G 87 (0) (i)) ≤ k)))) (gA G 85 0) 0 (gF G 9 (0) 0)) (by first | rfl | simp (disch := decide) [gF_sF, gF_sA, gF_uA, gF_sD, gA_sF, gA_sA, gA_uA, gA_sD, gD_sF, gD_sA, gD_uA, gD_sD]) ?_
    refine pw_top (b := kC G z p 0 k) (rfl) ?_
    refine pw_iast r_8_give_46 sh46 (by omega) (by omega) ?_
    refine pw_aload r_8_give_47 rfl ?_
    refine pw_const r_8_give_49 ?_
    refine pw_aload r_8_give_50 rfl ?_
    refine pw_getR r_8_give_51 fs_8_3 (by decide) ?_
    refine pw_iload r_8_give_54 rfl ?_
    refine pw_aload r_8_give_55 rfl ?_
    refine pw_const r_8_give_56 ?_
    refine pw_iload r_8_give_57 rfl ?_
    refine pw_callV (av := [vI (z), vR 3 (p), vI (1), vI (k)]) (st := [vI (2), vR 46 (0)]) (ls0 := [some (vR 9 (0)), some (vI (z)), some (vR 3 (p)), some (vI (1)), some (vI (k)), none, none, none]) r_8_give_59 rfl rfl rfl (Nat.le_refl _) ?_
    refine sp_X9_valueKnown (by first | assumption | exact hf | omega) (by first | assumption | exact hnum | omega) ?_
    refine pw_top (b := lastOf (fun i => ((gA G 83 (0) (i)) = p ∧ (gA G 84 (0) (i)) = (1 : Int) ∧ (((((1 : Int) = 2 ∧ z ≠ (gF G 3 (p) 2)) ∨ ((1 : Int) ≠ 2 ∧ z = (gF G 3 (p) 2))) ∧ (gA G 86 (0) (i)) ≤ k) ∨ (¬ (((1 : Int) = 2 ∧ z ≠ (gF G 3 (p) 2)) ∨ ((1 : Int) ≠ 2 ∧ z = (gF G 3 (p) 2))) ∧ (gA G 87 (0) (i)) ≤ k)))) (gA G 85 0) 0 (gF G 9 (0) 0)) (by first | rfl | simp (disch := decide) [gF_sF, gF_sA, gF_uA, gF_sD, gA_sF, gA_sA, gA_uA, gA_sD, gD_sF, gD_sA, gD_uA, gD_sD]) ?_
    refine pw_top (b := kC G z p 1 k) (rfl) ?_
    refine pw_iast r_8_give_62 sh46 (by omega) (by omega) ?_
    refine pw_aload r_8_give_63 rfl ?_
    refine pw_const r_8_give_65 ?_
    refine pw_aload r_8_give_66 rfl ?_
    refine pw_getR r_8_give_67 fs_8_3 (by decide) ?_
    refine pw_iload r_8_give_70 rfl ?_
    refine pw_aload r_8_give_71 rfl ?_
    refine pw_const r_8_give_72 ?_
    refine pw_iload r_8_give_73 rfl ?_
    refine pw_callV (av := [vI (z), vR 3 (p), vI (2), vI (k)]) (st := [vI (3), vR 46 (0)]) (ls0 := [some (vR 9 (0)), some (vI (z)), some (vR 3 (p)), some (vI (2)), some (vI (k)), none, none, none]) r_8_give_75 rfl rfl rfl (Nat.le_refl _) ?_
    refine sp_X9_valueKnown (by first | assumption | exact hf | omega) (by first | assumption | exact hnum | omega) ?_
    refine pw_top (b := lastOf (fun i => ((gA G 83 (0) (i)) = p ∧ (gA G 84 (0) (i)) = (2 : Int) ∧ (((((2 : Int) = 2 ∧ z ≠ (gF G 3 (p) 2)) ∨ ((2 : Int) ≠ 2 ∧ z = (gF G 3 (p) 2))) ∧ (gA G 86 (0) (i)) ≤ k) ∨ (¬ (((2 : Int) = 2 ∧ z ≠ (gF G 3 (p) 2)) ∨ ((2 : Int) ≠ 2 ∧ z = (gF G 3 (p) 2))) ∧ (gA G 87 (0) (i)) ≤ k)))) (gA G 85 0) 0 (gF G 9 (0) 0)) (by first | rfl | simp (disch := decide) [gF_sF, gF_sA, gF_uA, gF_sD, gA_sF, gA_sA, gA_uA, gA_sD, gD_sF, gD_sA, gD_uA, gD_sD]) ?_
    refine pw_top (b := kC G z p 2 k) (rfl) ?_
    refine pw_iast r_8_give_78 sh46 (by omega) (by omega) ?_
    refine pw_aload r_8_give_79 rfl ?_
    refine pw_const r_8_give_81 ?_
    refine pw_aload r_8_give_82 rfl ?_
    refine pw_getIv (v := gF G 3 (p) 3) r_8_give_83 fs_3_3 (by decide) (by first | rfl | simp [gF_sF, gF_sA, gF_uA, gF_sD, gA_sF, gA_sA, gA_uA, gA_sD, gD_sF, gD_sA, gD_uA, gD_sD]) ?_
    refine pw_iast r_8_give_86 sh46 (by omega) (by omega) ?_
    refine pw_aload r_8_give_87 rfl ?_
    refine pw_const r_8_give_89 ?_
    refine pw_const r_8_give_90 ?_
    refine pw_iload r_8_give_91 rfl ?_
    refine pw_aload r_8_give_93 rfl ?_
    refine pw_getIv (v := gF G 3 (p) 5) r_8_give_94 fs_3_5 (by decide) (by first | rfl | simp [gF_sF, gF_sA, gF_uA, gF_sD, gA_sF, gA_sA, gA_uA, gA_sD, gD_sF, gD_sA, gD_uA, gD_sD]) ?_
    refine pw_isub r_8_give_97 (by omega) ?_
    refine pw_mmax r_8_give_98 rfl (Nat.le_of_ble_eq_true rfl) (Nat.le_refl _) ?_
    refine pw_iast r_8_give_101 sh46 (by omega) (by omega) ?_
    refine pw_aload r_8_give_102 rfl ?_
    refine pw_const r_8_give_104 ?_
    refine pw_aload r_8_give_106 rfl ?_
    refine pw_getR r_8_give_107 fs_8_3 (by decide) ?_
    refine pw_const r_8_give_110 ?_
    refine pw_iload r_8_give_111 rfl ?_
    refine pw_isub r_8_give_112 (by omega) ?_
    refine pw_iload r_8_give_113 rfl ?_
    refine pw_aload r_8_give_115 rfl ?_
    refine pw_getR r_8_give_116 fs_8_2 (by decide) ?_
    refine pw_getIv (v := gF G 1 (0) 2) r_8_give_119 fs_1_2 (by decide) (by first | rfl | simp [gF_sF, gF_sA, gF_uA, gF_sD, gA_sF, gA_sA, gA_uA, gA_sD, gD_sF, gD_sA, gD_uA, gD_sD]) ?_
    refine pw_mmin r_8_give_122 rfl (Nat.le_of_ble_eq_true rfl) (Nat.le_refl _) ?_
    refine pw_callV (av := [vI ((1 - z)), vI (min d0 (gF G 1 (0) 2))]) (st := [vI (6), vR 46 (0)]) (ls0 := [some (vR 9 (0)), some (vI ((1 - z))), some (vI (min d0 (gF G 1 (0) 2))), none, none]) r_8_give_125 rfl rfl rfl (Nat.le_refl _) ?_
    refine sp_X9_countBroken (by first | assumption | exact hp | omega) (by first | assumption | exact hsz | omega) (by first | assumption | exact hpr | omega) ?_
    refine pw_top (b := cnt (fun i => (gA G 88 (0) (i)) = (1 - z) ∧ ((gA G 91 (0) (i)) < (min d0 (gF G 1 (0) 2)) ∧ cnt (fun i1 => ((gF G 3 (i1) 2) = (gA G 88 (0) (i)) ∧ (gF G 3 (i1) 8) = 5) ∧ (gA G 90 (0) (i)) ≤ (gF G 3 (i1) 9) ∧ (gF G 3 (i1) 9) ≤ (gA G 91 (0) (i))) (gF G 1 (0) 1) < (gA G 89 (0) (i)))) (gF G 9 (0) 2)) (by first | rfl | simp (disch := decide) [gF_sF, gF_sA, gF_uA, gF_sD, gA_sF, gA_sA, gA_uA, gA_sD, gD_sF, gD_sA, gD_uA, gD_sD]) ?_
    refine pw_top (b := brC G (1 - z) (min d0 (gF G 1 0 2))) (rfl) ?_
    refine pw_iast r_8_give_128 sh46 (by omega) (by omega) ?_
    refine pw_aload r_8_give_129 rfl ?_
    refine pw_getIv (v := gF G 3 (p) 8) r_8_give_130 fs_3_8 (by decide) (by first | rfl | simp [gF_sF, gF_sA, gF_uA, gF_sD, gA_sF, gA_sA, gA_uA, gA_sD, gD_sF, gD_sA, gD_uA, gD_sD]) ?_
    refine pw_if_ne r_8_give_133 (fun h133 => ?_) (fun h133 => ?_)
    · skip
      refine pw_const r_8_give_140 ?_
      refine pw_istore (ls' := [some (vR 8 (0)), some (vI (t)), some (vR 3 (p)), some (vI (z)), some (vI (d0)), some (vI (k)), some (vR 46 (0)), some (vI (0))]) r_8_give_141 rfl rfl ?_
      refine pw_aload r_8_give_143 rfl ?_
      refine pw_const r_8_give_145 ?_
      refine pw_iload r_8_give_147 rfl ?_
      refine pw_if_eq r_8_give_149 (fun h149 => ?_) (fun h149 => absurd h149 (by decide))
      refine pw_const r_8_give_167 ?_
      refine pw_iast r_8_give_168 sh46 (by omega) (by omega) ?_
      refine pw_aload r_8_give_169 rfl ?_
      refine pw_const r_8_give_171 ?_
      refine pw_iload r_8_give_173 rfl ?_
      refine pw_if_eq r_8_give_175 (fun h175 => ?_) (fun h175 => absurd h175 (by decide))
      refine pw_const r_8_give_193 ?_
      refine pw_iast r_8_give_194 sh46 (by omega) (by omega) ?_
      refine pw_eqG (G' := uA G 46 (0) (upA (upA (upA (upA (upA (upA (upA (upA (upA ((fun j => gA G 46 0 j)) 0 (gF G 3 (p) 1)) 1 (kC G z p 0 k)) 2 (kC G z p 1 k)) 3 (kC G z p 2 k)) 4 (gF G 3 (p) 3)) 5 (max 0 (d0 - (gF G 3 (p) 5)))) 6 (brC G (1 - z) (min d0 (gF G 1 0 2)))) 7 (0)) 8 (0))) (by first | rfl | (simp only [sA_eq G, sA_uA]; done)) ?_
      refine pw_aload r_8_give_195 rfl ?_
      refine pw_getR r_8_give_196 fs_8_4 (by decide) ?_
      refine pw_aload r_8_give_199 rfl ?_
      refine pw_getR r_8_give_200 fs_8_6 (by decide) ?_
      refine pw_iload r_8_give_203 rfl ?_
      refine pw_aaldS r_8_give_204 sh77 (by decide) (by decide) aS77 rw78 (by omega) (by omega) ?_
      refine pw_aload r_8_give_205 rfl ?_
      refine pw_getR r_8_give_206 fs_8_7 (by decide) ?_
      refine pw_iload r_8_give_209 rfl ?_
      refine pw_ialdv (v := gA G 79 (0) (t)) r_8_give_210 sh79 (by omega) (by omega) (by first | rfl | simp [gF_sF, gF_sA, gF_uA, gF_sD, gA_sF, gA_sA, gA_uA, gA_sD, gD_sF, gD_sA, gD_uA, gD_sD]) ?_
      refine pw_callV (av := [vR 78 (t), vI (gA G 79 (0) (t))]) (st := []) (ls0 := [some (vR 4 (0)), some (vR 78 (t)), some (vI (gA G 79 (0) (t))), none, none, none, none, none]) r_8_give_211 rfl rfl rfl (Nat.le_refl _) ?_
      refine sp_X4_readAll (cb := 78) (rb := t) (n := (gA G 79 0 (t))) (b := (fun j => (gA G 229 0 (160 * t + j)))) (e := (valC G z p d0 k)) (sh78) (by exact (hTX t (by omega) ht).2.1) (by intro j j0 j9; rcases (show j = 0 ∨ j = 1 ∨ j = 2 ∨ j = 3 ∨ j = 4 ∨ j = 5 ∨ j = 6 ∨ j = 7 ∨ j = 8 by omega) with e | e | e | e | e | e | e | e | e <;> subst e <;> first | rfl | exact (if_pos h133).symm | exact (if_neg h133).symm) ((hTX t (by omega) ht).1) ?_ ?_
      · skip
        exact fun f1 v1 l1 q1 _ _ => absurd (EvT_det q1 (hTX t (by omega) ht).2.2) (fun h => by cases h)
      · skip
        intro L1 q1
        refine pw_iret r_8_give_214 rfl (Nat.le_refl _) ⟨rfl, ?_⟩
        have eL : L1 = lnC G t := Sum.inr.inj (EvT_det q1 (hTX t (by omega) ht).2.2)
        have hS9 : SD t z p d0 k = pick (valC G z p d0 k) (lnC G t) 0 := by rw [← hSD]; rfl
        rw [eL, ← hS9]
        exact h1 (by omega) (_, some (78, t), -1, (SD t z p d0 k).1, _, _) rfl
    · skip
      refine pw_const r_8_give_136 ?_
      refine pw_goto r_8_give_137 ?_
      refine pw_istore (ls' := [some (vR 8 (0)), some (vI (t)), some (vR 3 (p)), some (vI (z)), some (vI (d0)), some (vI (k)), some (vR 46 (0)), some (vI (1))]) r_8_give_141 rfl rfl ?_
      refine pw_aload r_8_give_143 rfl ?_
      refine pw_const r_8_give_145 ?_
      refine pw_iload r_8_give_147 rfl ?_
      refine pw_if_eq r_8_give_149 (fun h149 => absurd h149 (by decide)) (fun h149 => ?_)
      refine pw_aload r_8_give_152 rfl ?_
      refine pw_getR r_8_give_153 fs_8_2 (by decide) ?_
      refine pw_aload r_8_give_156 rfl ?_
      refine pw_getIv (v := gF G 3 (p) 10) r_8_give_157 fs_3_10 (by decide) (by first | rfl | simp [gF_sF, gF_sA, gF_uA, gF_sD, gA_sF, gA_sA, gA_uA, gA_sD, gD_sF, gD_sA, gD_uA, gD_sD]) ?_
      refine pw_const r_8_give_160 ?_
      refine pw_callV (av := [vI (gF G 3 (p) 10), vI (0)]) (st := [vI (7), vR 46 (0)]) (ls0 := [some (vR 1 (0)), some (vI (gF G 3 (p) 10)), some (vI (0)), none, none, none]) r_8_give_161 rfl rfl rfl (Nat.le_refl _) ?_
      refine sp_X1_countIn (by first | assumption | exact hp | omega) (by first | assumption | exact hsz | omega) ?_
      refine pw_top (b := cnt (fun i => ((gF G 3 (i) 8) = 0 ∧ (gF G 3 (i) 10) = (gF G 3 (p) 10)) ∧ ((0 : Int) = 0 ∨ (gF G 3 (i) 1) = 3)) (gF G 1 (0) 1)) (by first | rfl | simp (disch := decide) [gF_sF, gF_sA, gF_uA, gF_sD, gA_sF, gA_sA, gA_uA, gA_sD, gD_sF, gD_sA, gD_uA, gD_sD]) ?_
      refine pw_top (b := ciC G (gF G 3 (p) 10) 0) (rfl) ?_
      refine pw_goto r_8_give_164 ?_
      refine pw_iast r_8_give_168 sh46 (by omega) (by omega) ?_
      refine pw_aload r_8_give_169 rfl ?_
      refine pw_const r_8_give_171 ?_
      refine pw_iload r_8_give_173 rfl ?_
      refine pw_if_eq r_8_give_175 (fun h175 => absurd h175 (by decide)) (fun h175 => ?_)
      refine pw_aload r_8_give_178 rfl ?_
      refine pw_getR r_8_give_179 fs_8_2 (by decide) ?_
      refine pw_aload r_8_give_182 rfl ?_
      refine pw_getIv (v := gF G 3 (p) 10) r_8_give_183 fs_3_10 (by decide) (by first | rfl | simp [gF_sF, gF_sA, gF_uA, gF_sD, gA_sF, gA_sA, gA_uA, gA_sD, gD_sF, gD_sA, gD_uA, gD_sD]) ?_
      refine pw_const r_8_give_186 ?_
      refine pw_callV (av := [vI (gF G 3 (p) 10), vI (1)]) (st := [vI (8), vR 46 (0)]) (ls0 := [some (vR 1 (0)), some (vI (gF G 3 (p) 10)), some (vI (1)), none, none, none]) r_8_give_187 rfl rfl rfl (Nat.le_refl _) ?_
      refine sp_X1_countIn (by first | assumption | exact hp | omega) (by first | assumption | exact hsz | omega) ?_
      refine pw_top (b := cnt (fun i => ((gF G 3 (i) 8) = 0 ∧ (gF G 3 (i) 10) = (gF G 3 (p) 10)) ∧ ((1 : Int) = 0 ∨ (gF G 3 (i) 1) = 3)) (gF G 1 (0) 1)) (by first | rfl | simp (disch := decide) [gF_sF, gF_sA, gF_uA, gF_sD, gA_sF, gA_sA, gA_uA, gA_sD, gD_sF, gD_sA, gD_uA, gD_sD]) ?_
      refine pw_top (b := ciC G (gF G 3 (p) 10) 1) (rfl) ?_
      refine pw_goto r_8_give_190 ?_
      refine pw_iast r_8_give_194 sh46 (by omega) (by omega) ?_
      refine pw_eqG (G' := uA G 46 (0) (upA (upA (upA (upA (upA (upA (upA (upA (upA ((fun j => gA G 46 0 j)) 0 (gF G 3 (p) 1)) 1 (kC G z p 0 k)) 2 (kC G z p 1 k)) 3 (kC G z p 2 k)) 4 (gF G 3 (p) 3)) 5 (max 0 (d0 - (gF G 3 (p) 5)))) 6 (brC G (1 - z) (min d0 (gF G 1 0 2)))) 7 (ciC G (gF G 3 (p) 10) 0)) 8 (ciC G (gF G 3 (p) 10) 1))) (by first | rfl | (simp only [sA_eq G, sA_uA]; done)) ?_
      refine pw_aload r_8_give_195 rfl ?_
      refine pw_getR r_8_give_196 fs_8_4 (by decide) ?_
      refine pw_aload r_8_give_199 rfl ?_
      refine pw_getR r_8_give_200 fs_8_6 (by decide) ?_
      refine pw_iload r_8_give_203 rfl ?_
      refine pw_aaldS r_8_give_204 sh77 (by decide) (by decide) aS77 rw78 (by omega) (by omega) ?_
      refine pw_aload r_8_give_205 rfl ?_
      refine pw_getR r_8_give_206 fs_8_7 (by decide) ?_
      refine pw_iload r_8_give_209 rfl ?_
      refine pw_ialdv (v := gA G 79 (0) (t)) r_8_give_210 sh79 (by omega) (by omega) (by first | rfl | simp [gF_sF, gF_sA, gF_uA, gF_sD, gA_sF, gA_sA, gA_uA, gA_sD, gD_sF, gD_sA, gD_uA, gD_sD]) ?_
      refine pw_callV (av := [vR 78 (t), vI (gA G 79 (0) (t))]) (st := []) (ls0 := [some (vR 4 (0)), some (vR 78 (t)), some (vI (gA G 79 (0) (t))), none, none, none, none, none]) r_8_give_211 rfl rfl rfl (Nat.le_refl _) ?_
      refine sp_X4_readAll (cb := 78) (rb := t) (n := (gA G 79 0 (t))) (b := (fun j => (gA G 229 0 (160 * t + j)))) (e := (valC G z p d0 k)) (sh78) (by exact (hTX t (by omega) ht).2.1) (by intro j j0 j9; rcases (show j = 0 ∨ j = 1 ∨ j = 2 ∨ j = 3 ∨ j = 4 ∨ j = 5 ∨ j = 6 ∨ j = 7 ∨ j = 8 by omega) with e | e | e | e | e | e | e | e | e <;> subst e <;> first | rfl | exact (if_pos h133).symm | exact (if_neg h133).symm) ((hTX t (by omega) ht).1) ?_ ?_
      · skip
        exact fun f1 v1 l1 q1 _ _ => absurd (EvT_det q1 (hTX t (by omega) ht).2.2) (fun h => by cases h)
      · skip
        intro L1 q1
        refine pw_iret r_8_give_214 rfl (Nat.le_refl _) ⟨rfl, ?_⟩
        have eL : L1 = lnC G t := Sum.inr.inj (EvT_det q1 (hTX t (by omega) ht).2.2)
        have hS9 : SD t z p d0 k = pick (valC G z p d0 k) (lnC G t) 0 := by rw [← hSD]; rfl
        rw [eL, ← hS9]
        exact h1 (by omega) (_, some (78, t), -1, (SD t z p d0 k).1, _, _) rfl
set_option maxRecDepth 10000 in
theorem sp_X8_allowStay {l : Launch} {w : Wo} {d : Nat} {G : PH} {P : Option PV → PH → Prop} {p d0 k : Int} {ST : Int → Int → Int → Prop} {SD : Int → Int → Int → Int → Int → Int × Int} {FC : Int → Int → Int → Int} {KC : Int → Int → Int → Int → Int} (hp : ∀ i, 0 ≤ i → i < (gF G 1 0 1) → gD G 30 0 i = some (3, i)) (hsz : 0 ≤ (gF G 1 0 1) ∧ (gF G 1 0 1) ≤ 150) (hf : 0 ≤ (gF G 9 0 0) ∧ (gF G 9 0 0) ≤ 300) (hpr : 0 ≤ (gF G 9 0 2) ∧ (gF G 9 0 2) ≤ 40) (htx : 0 ≤ (gF G 8 0 0) ∧ (gF G 8 0 0) ≤ 20) (hTX : txC G) (hSD : sdC G = SD) (hFC : fcC G = FC) (hKC : kC G = KC) (hnA : ∀ i, 0 ≤ i → i < (gF G 1 0 1) → (gF G 3 (i) 0) = i) (hcA : ∀ i, 0 ≤ i → i < (gF G 1 0 1) → 0 ≤ (gF G 3 (i) 5) ∧ (gF G 3 (i) 5) ≤ 600) (hsA : ∀ i, 0 ≤ i → i < (gF G 1 0 1) → 0 ≤ (gF G 3 (i) 2) ∧ (gF G 3 (i) 2) ≤ 1) (hpv : 0 ≤ p ∧ p < (gF G 1 0 1)) (hd0 : 0 ≤ d0 ∧ d0 ≤ 600) (hST : stC G = ST) (hP : ∀ q : RQ, P (some (vI (b2i (ST p d0 k)))) (rstC G q)) : PW l w M_X8_allowStay (d + 128) 0 [some (vR 8 (0)), some (vR 3 (p)), some (vI (d0)), some (vI (k)), none] [] G P := by
  have hFb : ∀ u a b, FC u a b < (gF G 8 0 0) := fun u a b => by rw [← hFC]; have := fcC_lt (G := G) htx.1 u a b; omega
  have hnum := hnA p hpv.1 hpv.2
  have eS : ST p d0 k ↔ (KC (gF G 3 (p) 2) p 1 k ≠ 0 ∧ ((0 ≤ FC 11 d0 k ∧ (SD (FC 11 d0 k) (gF G 3 (p) 2) p d0 k).2 ≠ 0) ∨ (FC 11 d0 k < 0 ∧ 0 ≤ FC 1 d0 k ∧ (SD (FC 1 d0 k) (gF G 3 (p) 2) p d0 k).2 ≠ 0))) := by rw [← hST, ← hKC, ← hFC, ← hSD]; exact Iff.rfl
  refine pw_aload r_8_allowStay_0 rfl ?_
  refine pw_getR r_8_allowStay_1 fs_8_3 (by decide) ?_
  refine pw_aload r_8_allowStay_4 rfl ?_
  refine pw_getI r_8_allowStay_5 fs_3_2 (by decide) ?_
  refine pw_aload r_8_allowStay_8 rfl ?_
  refine pw_const r_8_allowStay_9 ?_
  refine pw_iload r_8_allowStay_10 rfl ?_
  refine pw_callV (av := [vI (gF G 3 (p) 2), vR 3 (p), vI (1), vI (k)]) (st := []) (ls0 := [some (vR 9 (0)), some (vI (gF G 3 (p) 2)), some (vR 3 (p)), some (vI (1)), some (vI (k)), none, none, none]) r_8_allowStay_11 rfl rfl rfl (Nat.le_refl _) ?_
  refine sp_X9_valueKnown (by first | assumption | exact hf | omega) (by first | assumption | exact hnum | omega) ?_
  refine pw_top (b := KC (gF G 3 (p) 2) p 1 k) ((show kC G (gF G 3 (p) 2) p 1 k = KC (gF G 3 (p) 2) p 1 k by rw [hKC])) ?_
  refine pw_if_ne r_8_allowStay_14 (fun h14 => ?_) (fun h14 => ?_)
  · skip
    refine pw_aload r_8_allowStay_19 rfl ?_
    refine pw_const r_8_allowStay_20 ?_
    refine pw_iload r_8_allowStay_22 rfl ?_
    refine pw_iload r_8_allowStay_23 rfl ?_
    refine pw_callV (av := [vI (11), vI (d0), vI (k)]) (st := []) (ls0 := [some (vR 8 (0)), some (vI (11)), some (vI (d0)), some (vI (k)), none]) r_8_allowStay_24 rfl rfl rfl (Nat.le_refl _) ?_
    refine sp_X8_findInForce (by first | assumption | exact htx | omega) ?_
    refine pw_top (b := FC (11) d0 k) ((show fcC G (11) d0 k = FC (11) d0 k by rw [hFC])) ?_
    refine pw_istore (ls' := [some (vR 8 (0)), some (vR 3 (p)), some (vI (d0)), some (vI (k)), some (vI (FC (11) d0 k))]) r_8_allowStay_27 rfl rfl ?_
    refine pw_iload r_8_allowStay_29 rfl ?_
    refine pw_if_ge r_8_allowStay_31 (fun h31 => ?_) (fun h31 => ?_)
    · skip
      refine pw_aload r_8_allowStay_43 rfl ?_
      refine pw_iload r_8_allowStay_44 rfl ?_
      refine pw_aload r_8_allowStay_46 rfl ?_
      refine pw_aload r_8_allowStay_47 rfl ?_
      refine pw_getI r_8_allowStay_48 fs_3_2 (by decide) ?_
      refine pw_iload r_8_allowStay_51 rfl ?_
      refine pw_iload r_8_allowStay_52 rfl ?_
      refine pw_callV (av := [vI (FC (11) d0 k), vR 3 (p), vI (gF G 3 (p) 2), vI (d0), vI (k)]) (st := []) (ls0 := [some (vR 8 (0)), some (vI (FC (11) d0 k)), some (vR 3 (p)), some (vI (gF G 3 (p) 2)), some (vI (d0)), some (vI (k)), none, none]) r_8_allowStay_53 rfl rfl rfl (Nat.le_refl _) ?_
      refine sp_X8_give (SD := SD) (FC := FC) (KC := KC) (t := (FC (11) d0 k)) (p := p) (z := (gF G 3 (p) 2)) (by exact hp) (by exact hsz) (by exact hf) (by exact hpr) (by exact htx) (by exact hTX) (by exact hSD) (by exact hFC) (by exact hKC) (by first | exact hnum | exact hnA p hpv.1 hpv.2) (by first | exact hcm | exact hcA p hpv.1 hpv.2) (by first | exact hz | exact hsA p hpv.1 hpv.2) (by exact hd0) (by first | exact hFb _ _ _ | omega) ?_ ?_
      · skip
        intro q3
        refine pw_if_eq r_8_allowStay_56 (fun h56 => ?_) (fun h56 => absurd h56 (by decide))
        refine pw_const r_8_allowStay_63 ?_
        refine pw_zret r_8_allowStay_64 rfl (Or.inl rfl) (Nat.le_refl _) ⟨rfl, ?_⟩
        have h9 := hP (rstQ G)
        rw [rstC_self] at h9
        exact pe h9 (by first | exact (b2i_t (by rw [eS]; omega)).symm | exact (b2i_f (by rw [eS]; omega)).symm)
      · skip
        intro q3 q1 q2
        refine pw_if_eq r_8_allowStay_56 (fun h56 => ?_) (fun h56 => ?_)
        · skip
          refine pw_const r_8_allowStay_63 ?_
          refine pw_zret r_8_allowStay_64 rfl (Or.inl rfl) (Nat.le_refl _) ⟨rfl, ?_⟩
          have h9 := hP q1
          exact pe h9 (by first | exact (b2i_t (by rw [eS]; omega)).symm | exact (b2i_f (by rw [eS]; omega)).symm)
        · skip
          refine pw_const r_8_allowStay_59 ?_
          refine pw_goto r_8_allowStay_60 ?_
          refine pw_zret r_8_allowStay_64 rfl (Or.inr rfl) (Nat.le_refl _) ⟨rfl, ?_⟩
          have h9 := hP q1
          exact pe h9 (by first | exact (b2i_t (by rw [eS]; omega)).symm | exact (b2i_f (by rw [eS]; omega)).symm)
    · skip
      refine pw_aload r_8_allowStay_34 rfl ?_
      refine pw_const r_8_allowStay_35 ?_
      refine pw_iload r_8_allowStay_36 rfl ?_
      refine pw_iload r_8_allowStay_37 rfl ?_
      refine pw_callV (av := [vI (1), vI (d0), vI (k)]) (st := []) (ls0 := [some (vR 8 (0)), some (vI (1)), some (vI (d0)), some (vI (k)), none]) r_8_allowStay_38 rfl rfl rfl (Nat.le_refl _) ?_
      refine sp_X8_findInForce (by first | assumption | exact htx | omega) ?_
      refine pw_top (b := FC (1) d0 k) ((show fcC G (1) d0 k = FC (1) d0 k by rw [hFC])) ?_
      refine pw_istore (ls' := [some (vR 8 (0)), some (vR 3 (p)), some (vI (d0)), some (vI (k)), some (vI (FC (1) d0 k))]) r_8_allowStay_41 rfl rfl ?_
      refine pw_aload r_8_allowStay_43 rfl ?_
      refine pw_iload r_8_allowStay_44 rfl ?_
      refine pw_aload r_8_allowStay_46 rfl ?_
      refine pw_aload r_8_allowStay_47 rfl ?_
      refine pw_getI r_8_allowStay_48 fs_3_2 (by decide) ?_
      refine pw_iload r_8_allowStay_51 rfl ?_
      refine pw_iload r_8_allowStay_52 rfl ?_
      refine pw_callV (av := [vI (FC (1) d0 k), vR 3 (p), vI (gF G 3 (p) 2), vI (d0), vI (k)]) (st := []) (ls0 := [some (vR 8 (0)), some (vI (FC (1) d0 k)), some (vR 3 (p)), some (vI (gF G 3 (p) 2)), some (vI (d0)), some (vI (k)), none, none]) r_8_allowStay_53 rfl rfl rfl (Nat.le_refl _) ?_
      refine sp_X8_give (SD := SD) (FC := FC) (KC := KC) (t := (FC (1) d0 k)) (p := p) (z := (gF G 3 (p) 2)) (by exact hp) (by exact hsz) (by exact hf) (by exact hpr) (by exact htx) (by exact hTX) (by exact hSD) (by exact hFC) (by exact hKC) (by first | exact hnum | exact hnA p hpv.1 hpv.2) (by first | exact hcm | exact hcA p hpv.1 hpv.2) (by first | exact hz | exact hsA p hpv.1 hpv.2) (by exact hd0) (by first | exact hFb _ _ _ | omega) ?_ ?_
      · skip
        intro q3
        refine pw_if_eq r_8_allowStay_56 (fun h56 => ?_) (fun h56 => absurd h56 (by decide))
        refine pw_const r_8_allowStay_63 ?_
        refine pw_zret r_8_allowStay_64 rfl (Or.inl rfl) (Nat.le_refl _) ⟨rfl, ?_⟩
        have h9 := hP (rstQ G)
        rw [rstC_self] at h9
        exact pe h9 (by first | exact (b2i_t (by rw [eS]; omega)).symm | exact (b2i_f (by rw [eS]; omega)).symm)
      · skip
        intro q3 q1 q2
        refine pw_if_eq r_8_allowStay_56 (fun h56 => ?_) (fun h56 => ?_)
        · skip
          refine pw_const r_8_allowStay_63 ?_
          refine pw_zret r_8_allowStay_64 rfl (Or.inl rfl) (Nat.le_refl _) ⟨rfl, ?_⟩
          have h9 := hP q1
          exact pe h9 (by first | exact (b2i_t (by rw [eS]; omega)).symm | exact (b2i_f (by rw [eS]; omega)).symm)
        · skip
          refine pw_const r_8_allowStay_59 ?_
          refine pw_goto r_8_allowStay_60 ?_
          refine pw_zret r_8_allowStay_64 rfl (Or.inr rfl) (Nat.le_refl _) ⟨rfl, ?_⟩
          have h9 := hP q1
          exact pe h9 (by first | exact (b2i_t (by rw [eS]; omega)).symm | exact (b2i_f (by rw [eS]; omega)).symm)
  · skip
    refine pw_const r_8_allowStay_17 ?_
    refine pw_zret r_8_allowStay_18 rfl (Or.inl rfl) (Nat.le_refl _) ⟨rfl, ?_⟩
    have h9 := hP (rstQ G)
    rw [rstC_self] at h9
    exact pe h9 (by first | exact (b2i_t (by rw [eS]; omega)).symm | exact (b2i_f (by rw [eS]; omega)).symm)
set_option maxRecDepth 10000 in
theorem sp_X8_rate {l : Launch} {w : Wo} {d : Nat} {G : PH} {P : Option PV → PH → Prop} {p z d0 k : Int} {WT : Int → Int → Int → Int → Int} {SD : Int → Int → Int → Int → Int → Int × Int} {FC : Int → Int → Int → Int} {KC : Int → Int → Int → Int → Int} (hp : ∀ i, 0 ≤ i → i < (gF G 1 0 1) → gD G 30 0 i = some (3, i)) (hsz : 0 ≤ (gF G 1 0 1) ∧ (gF G 1 0 1) ≤ 150) (hf : 0 ≤ (gF G 9 0 0) ∧ (gF G 9 0 0) ≤ 300) (hpr : 0 ≤ (gF G 9 0 2) ∧ (gF G 9 0 2) ≤ 40) (htx : 0 ≤ (gF G 8 0 0) ∧ (gF G 8 0 0) ≤ 20) (hTX : txC G) (hSD : sdC G = SD) (hFC : fcC G = FC) (hKC : kC G = KC) (hnA : ∀ i, 0 ≤ i → i < (gF G 1 0 1) → (gF G 3 (i) 0) = i) (hcA : ∀ i, 0 ≤ i → i < (gF G 1 0 1) → 0 ≤ (gF G 3 (i) 5) ∧ (gF G 3 (i) 5) ≤ 600) (hsA : ∀ i, 0 ≤ i → i < (gF G 1 0 1) → 0 ≤ (gF G 3 (i) 2) ∧ (gF G 3 (i) 2) ≤ 1) (hpv : 0 ≤ p ∧ p < (gF G 1 0 1)) (hz : 0 ≤ z ∧ z ≤ 1) (hd0 : 0 ≤ d0 ∧ d0 ≤ 600) (hWT : wtC G = WT) (hP : ∀ q : RQ, P (some (vI (WT p z d0 k))) (rstC G q)) : PW l w M_X8_rate (d + 128) 0 [some (vR 8 (0)), some (vR 3 (p)), some (vI (z)), some (vI (d0)), some (vI (k)), none] [] G P := by
  have hFb : ∀ u a b, FC u a b < (gF G 8 0 0) := fun u a b => by rw [← hFC]; have := fcC_lt (G := G) htx.1 u a b; omega
  have eW : WT p z d0 k = if FC (10 * (2 + z) + 2) d0 k < 0 then 1 else max 0 (min 999 (SD (FC (10 * (2 + z) + 2) d0 k) z p d0 k).2) := by rw [← hWT, ← hFC, ← hSD]; rfl
  refine pw_aload r_8_rate_0 rfl ?_
  refine pw_const r_8_rate_1 ?_
  refine pw_const r_8_rate_3 ?_
  refine pw_iload r_8_rate_4 rfl ?_
  refine pw_iadd r_8_rate_5 (by omega) ?_
  refine pw_imul r_8_rate_6 (by omega) ?_
  refine pw_const r_8_rate_7 ?_
  refine pw_iadd r_8_rate_8 (by omega) ?_
  refine pw_iload r_8_rate_9 rfl ?_
  refine pw_iload r_8_rate_10 rfl ?_
  refine pw_callV (av := [vI (((10 * (2 + z)) + 2)), vI (d0), vI (k)]) (st := []) (ls0 := [some (vR 8 (0)), some (vI (((10 * (2 + z)) + 2))), some (vI (d0)), some (vI (k)), none]) r_8_rate_12 rfl rfl rfl (Nat.le_refl _) ?_
  refine sp_X8_findInForce (by first | assumption | exact htx | omega) ?_
  refine pw_top (b := FC (10 * (2 + z) + 2) d0 k) ((show fcC G (10 * (2 + z) + 2) d0 k = FC (10 * (2 + z) + 2) d0 k by rw [hFC])) ?_
  refine pw_istore (ls' := [some (vR 8 (0)), some (vR 3 (p)), some (vI (z)), some (vI (d0)), some (vI (k)), some (vI (FC (10 * (2 + z) + 2) d0 k))]) r_8_rate_15 rfl rfl ?_
  refine pw_iload r_8_rate_17 rfl ?_
  refine pw_if_ge r_8_rate_19 (fun h19 => ?_) (fun h19 => ?_)
  · skip
    refine pw_const r_8_rate_26 ?_
    refine pw_const r_8_rate_27 ?_
    refine pw_aload r_8_rate_30 rfl ?_
    refine pw_iload r_8_rate_31 rfl ?_
    refine pw_aload r_8_rate_33 rfl ?_
    refine pw_iload r_8_rate_34 rfl ?_
    refine pw_iload r_8_rate_35 rfl ?_
    refine pw_iload r_8_rate_36 rfl ?_
    refine pw_callV (av := [vI (FC (10 * (2 + z) + 2) d0 k), vR 3 (p), vI (z), vI (d0), vI (k)]) (st := [vI (999), vI (0)]) (ls0 := [some (vR 8 (0)), some (vI (FC (10 * (2 + z) + 2) d0 k)), some (vR 3 (p)), some (vI (z)), some (vI (d0)), some (vI (k)), none, none]) r_8_rate_38 rfl rfl rfl (Nat.le_refl _) ?_
    refine sp_X8_give (SD := SD) (FC := FC) (KC := KC) (t := (FC (10 * (2 + z) + 2) d0 k)) (p := p) (z := z) (by exact hp) (by exact hsz) (by exact hf) (by exact hpr) (by exact htx) (by exact hTX) (by exact hSD) (by exact hFC) (by exact hKC) (by first | exact hnum | exact hnA p hpv.1 hpv.2) (by first | exact hcm | exact hcA p hpv.1 hpv.2) (by first | exact hz | exact hsA p hpv.1 hpv.2) (by exact hd0) (by first | exact hFb _ _ _ | omega) ?_ ?_
    · skip
      exact fun q9 => absurd q9 (by omega)
    · skip
      intro q3 q1 q2
      refine pw_mmin r_8_rate_41 rfl (Nat.le_of_ble_eq_true rfl) (Nat.le_refl _) ?_
      refine pw_mmax r_8_rate_44 rfl (Nat.le_of_ble_eq_true rfl) (Nat.le_refl _) ?_
      refine pw_iret r_8_rate_47 rfl (Nat.le_refl _) ⟨rfl, ?_⟩
      have h9 := hP q1
      exact pe h9 (by rw [eW]; first | exact (if_pos (by omega)).symm | exact (if_neg (by omega)).symm)
  · skip
    refine pw_const r_8_rate_22 ?_
    refine pw_goto r_8_rate_23 ?_
    refine pw_iret r_8_rate_47 rfl (Nat.le_refl _) ⟨rfl, ?_⟩
    have h9 := hP (rstQ G)
    rw [rstC_self] at h9
    exact pe h9 (by rw [eW]; first | exact (if_pos (by omega)).symm | exact (if_neg (by omega)).symm)
set_option maxRecDepth 10000 in
theorem sp_X8_tellMayStay {l : Launch} {w : Wo} {d : Nat} {G : PH} {P : Option PV → PH → Prop} {p d0 k : Int} {ST : Int → Int → Int → Prop} {SD : Int → Int → Int → Int → Int → Int × Int} {FC : Int → Int → Int → Int} {KC : Int → Int → Int → Int → Int} (hp : ∀ i, 0 ≤ i → i < (gF G 1 0 1) → gD G 30 0 i = some (3, i)) (hsz : 0 ≤ (gF G 1 0 1) ∧ (gF G 1 0 1) ≤ 150) (hf : 0 ≤ (gF G 9 0 0) ∧ (gF G 9 0 0) ≤ 300) (hpr : 0 ≤ (gF G 9 0 2) ∧ (gF G 9 0 2) ≤ 40) (htx : 0 ≤ (gF G 8 0 0) ∧ (gF G 8 0 0) ≤ 20) (hTX : txC G) (hSD : sdC G = SD) (hFC : fcC G = FC) (hKC : kC G = KC) (hnA : ∀ i, 0 ≤ i → i < (gF G 1 0 1) → (gF G 3 (i) 0) = i) (hcA : ∀ i, 0 ≤ i → i < (gF G 1 0 1) → 0 ≤ (gF G 3 (i) 5) ∧ (gF G 3 (i) 5) ≤ 600) (hsA : ∀ i, 0 ≤ i → i < (gF G 1 0 1) → 0 ≤ (gF G 3 (i) 2) ∧ (gF G 3 (i) 2) ≤ 1) (hST : stC G = ST) (h1 : ¬ ((0 ≤ p ∧ p < (gF G 1 0 1)) ∧ (0 ≤ d0 ∧ d0 ≤ 600) ∧ 0 ≤ k ∧ k ≤ 600) → P (some (vI (-1))) G) (h2 : ((0 ≤ p ∧ p < (gF G 1 0 1)) ∧ (0 ≤ d0 ∧ d0 ≤ 600) ∧ 0 ≤ k ∧ k ≤ 600) → ∀ q : RQ, P (some (vI (b2i (ST p d0 k)))) (rstC G q)) : PW l w M_X8_tellMayStay (d + 129) 0 [some (vR 8 (0)), some (vI (p)), some (vI (d0)), some (vI (k)), none] [] G P := by
  refine pw_aload r_8_tellMayStay_0 rfl ?_
  refine pw_getR r_8_tellMayStay_1 fs_8_2 (by decide) ?_
  refine pw_iload r_8_tellMayStay_4 rfl ?_
  refine pw_callV (av := [vI (p)]) (st := []) (ls0 := [some (vR 1 (0)), some (vI (p))]) r_8_tellMayStay_5 rfl rfl rfl (Nat.le_refl _) ?_
  refine sp_X1_get (by first | assumption | exact hp | omega) (by first | assumption | exact hsz | omega) ?_ ?_
  · skip
    intros
    refine pw_astore (ls' := [some (vR 8 (0)), some (vI (p)), some (vI (d0)), some (vI (k)), some (vN)]) r_8_tellMayStay_8 rfl rfl ?_
    refine pw_aload r_8_tellMayStay_10 rfl ?_
    refine pw_ifnull r_8_tellMayStay_12 (fun _ => ?_) (fun _ q => by cases q)
    refine pw_const r_8_tellMayStay_29 ?_
    refine pw_iret r_8_tellMayStay_30 rfl (Nat.le_refl _) ⟨rfl, ?_⟩
    exact h1 (by omega)
  · skip
    intros
    refine pw_astore (ls' := [some (vR 8 (0)), some (vI (p)), some (vI (d0)), some (vI (k)), some (vR 3 (p))]) r_8_tellMayStay_8 rfl rfl ?_
    refine pw_aload r_8_tellMayStay_10 rfl ?_
    refine pw_ifnull r_8_tellMayStay_12 (fun q => by cases q) (fun _ _ => ?_)
    refine pw_iload r_8_tellMayStay_15 rfl ?_
    refine pw_callS (av := [vI (d0)]) (st := []) (ls0 := [some (vI (d0))]) r_8_tellMayStay_16 rfl rfl rfl (Nat.le_refl _) ?_
    refine sp_X11_isDay  ?_
    refine pw_if_eqB r_8_tellMayStay_19 (fun h19 => ?_) (fun h19 => ?_)
    · skip
      refine pw_const r_8_tellMayStay_29 ?_
      refine pw_iret r_8_tellMayStay_30 rfl (Nat.le_refl _) ⟨rfl, ?_⟩
      exact h1 (by omega)
    · skip
      refine pw_iload r_8_tellMayStay_22 rfl ?_
      refine pw_callS (av := [vI (k)]) (st := []) (ls0 := [some (vI (k))]) r_8_tellMayStay_23 rfl rfl rfl (Nat.le_refl _) ?_
      refine sp_X11_isDay  ?_
      refine pw_if_neB r_8_tellMayStay_26 (fun h26 => ?_) (fun h26 => ?_)
      · skip
        refine pw_aload r_8_tellMayStay_31 rfl ?_
        refine pw_aload r_8_tellMayStay_32 rfl ?_
        refine pw_iload r_8_tellMayStay_34 rfl ?_
        refine pw_iload r_8_tellMayStay_35 rfl ?_
        refine pw_callV (av := [vR 3 (p), vI (d0), vI (k)]) (st := []) (ls0 := [some (vR 8 (0)), some (vR 3 (p)), some (vI (d0)), some (vI (k)), none]) r_8_tellMayStay_36 rfl rfl rfl (Nat.le_refl _) ?_
        refine sp_X8_allowStay (SD := SD) (FC := FC) (KC := KC) (ST := ST) (by exact hp) (by exact hsz) (by exact hf) (by exact hpr) (by exact htx) (by exact hTX) (by exact hSD) (by exact hFC) (by exact hKC) (by exact hnA) (by exact hcA) (by exact hsA) (by omega) (by omega) (by exact hST) ?_
        intro q1
        refine pw_if_eqB r_8_tellMayStay_39 (fun h39 => ?_) (fun h39 => ?_)
        · skip
          refine pw_const r_8_tellMayStay_46 ?_
          refine pw_iret r_8_tellMayStay_47 rfl (Nat.le_refl _) ⟨rfl, ?_⟩
          exact pe (h2 (by omega) q1) (by first | exact (b2i_t (by assumption)).symm | exact (b2i_f (by assumption)).symm)
        · skip
          refine pw_const r_8_tellMayStay_42 ?_
          refine pw_goto r_8_tellMayStay_43 ?_
          refine pw_iret r_8_tellMayStay_47 rfl (Nat.le_refl _) ⟨rfl, ?_⟩
          exact pe (h2 (by omega) q1) (by first | exact (b2i_t (by assumption)).symm | exact (b2i_f (by assumption)).symm)
      · skip
        refine pw_const r_8_tellMayStay_29 ?_
        refine pw_iret r_8_tellMayStay_30 rfl (Nat.le_refl _) ⟨rfl, ?_⟩
        exact h1 (by omega)
set_option maxRecDepth 10000 in
theorem sp_X8_tellWorth {l : Launch} {w : Wo} {d : Nat} {G : PH} {P : Option PV → PH → Prop} {p z d0 k : Int} {WT : Int → Int → Int → Int → Int} {SD : Int → Int → Int → Int → Int → Int × Int} {FC : Int → Int → Int → Int} {KC : Int → Int → Int → Int → Int} (hp : ∀ i, 0 ≤ i → i < (gF G 1 0 1) → gD G 30 0 i = some (3, i)) (hsz : 0 ≤ (gF G 1 0 1) ∧ (gF G 1 0 1) ≤ 150) (hf : 0 ≤ (gF G 9 0 0) ∧ (gF G 9 0 0) ≤ 300) (hpr : 0 ≤ (gF G 9 0 2) ∧ (gF G 9 0 2) ≤ 40) (htx : 0 ≤ (gF G 8 0 0) ∧ (gF G 8 0 0) ≤ 20) (hTX : txC G) (hSD : sdC G = SD) (hFC : fcC G = FC) (hKC : kC G = KC) (hnA : ∀ i, 0 ≤ i → i < (gF G 1 0 1) → (gF G 3 (i) 0) = i) (hcA : ∀ i, 0 ≤ i → i < (gF G 1 0 1) → 0 ≤ (gF G 3 (i) 5) ∧ (gF G 3 (i) 5) ≤ 600) (hsA : ∀ i, 0 ≤ i → i < (gF G 1 0 1) → 0 ≤ (gF G 3 (i) 2) ∧ (gF G 3 (i) 2) ≤ 1) (hWT : wtC G = WT) (h1 : ¬ ((0 ≤ p ∧ p < (gF G 1 0 1)) ∧ (0 ≤ z ∧ z ≤ 1) ∧ (0 ≤ d0 ∧ d0 ≤ 600) ∧ 0 ≤ k ∧ k ≤ 600) → P (some (vI (-1))) G) (h2 : ((0 ≤ p ∧ p < (gF G 1 0 1)) ∧ (0 ≤ z ∧ z ≤ 1) ∧ (0 ≤ d0 ∧ d0 ≤ 600) ∧ 0 ≤ k ∧ k ≤ 600) → ∀ q : RQ, P (some (vI (WT p z d0 k))) (rstC G q)) : PW l w M_X8_tellWorth (d + 129) 0 [some (vR 8 (0)), some (vI (p)), some (vI (z)), some (vI (d0)), some (vI (k)), none] [] G P := by
  refine pw_aload r_8_tellWorth_0 rfl ?_
  refine pw_getR r_8_tellWorth_1 fs_8_2 (by decide) ?_
  refine pw_iload r_8_tellWorth_4 rfl ?_
  refine pw_callV (av := [vI (p)]) (st := []) (ls0 := [some (vR 1 (0)), some (vI (p))]) r_8_tellWorth_5 rfl rfl rfl (Nat.le_refl _) ?_
  refine sp_X1_get (by first | assumption | exact hp | omega) (by first | assumption | exact hsz | omega) ?_ ?_
  · skip
    intros
    refine pw_astore (ls' := [some (vR 8 (0)), some (vI (p)), some (vI (z)), some (vI (d0)), some (vI (k)), some (vN)]) r_8_tellWorth_8 rfl rfl ?_
    refine pw_aload r_8_tellWorth_10 rfl ?_
    refine pw_ifnull r_8_tellWorth_12 (fun _ => ?_) (fun _ q => by cases q)
    refine pw_const r_8_tellWorth_37 ?_
    refine pw_iret r_8_tellWorth_38 rfl (Nat.le_refl _) ⟨rfl, ?_⟩
    exact h1 (by omega)
  · skip
    intros
    refine pw_astore (ls' := [some (vR 8 (0)), some (vI (p)), some (vI (z)), some (vI (d0)), some (vI (k)), some (vR 3 (p))]) r_8_tellWorth_8 rfl rfl ?_
    refine pw_aload r_8_tellWorth_10 rfl ?_
    refine pw_ifnull r_8_tellWorth_12 (fun q => by cases q) (fun _ _ => ?_)
    refine pw_iload r_8_tellWorth_15 rfl ?_
    refine pw_callS (av := [vI (z)]) (st := []) (ls0 := [some (vI (z))]) r_8_tellWorth_16 rfl rfl rfl (Nat.le_refl _) ?_
    refine sp_X11_isSide  ?_
    refine pw_if_eqB r_8_tellWorth_19 (fun h19 => ?_) (fun h19 => ?_)
    · skip
      refine pw_const r_8_tellWorth_37 ?_
      refine pw_iret r_8_tellWorth_38 rfl (Nat.le_refl _) ⟨rfl, ?_⟩
      exact h1 (by omega)
    · skip
      refine pw_iload r_8_tellWorth_22 rfl ?_
      refine pw_callS (av := [vI (d0)]) (st := []) (ls0 := [some (vI (d0))]) r_8_tellWorth_23 rfl rfl rfl (Nat.le_refl _) ?_
      refine sp_X11_isDay  ?_
      refine pw_if_eqB r_8_tellWorth_26 (fun h26 => ?_) (fun h26 => ?_)
      · skip
        refine pw_const r_8_tellWorth_37 ?_
        refine pw_iret r_8_tellWorth_38 rfl (Nat.le_refl _) ⟨rfl, ?_⟩
        exact h1 (by omega)
      · skip
        refine pw_iload r_8_tellWorth_29 rfl ?_
        refine pw_callS (av := [vI (k)]) (st := []) (ls0 := [some (vI (k))]) r_8_tellWorth_31 rfl rfl rfl (Nat.le_refl _) ?_
        refine sp_X11_isDay  ?_
        refine pw_if_neB r_8_tellWorth_34 (fun h34 => ?_) (fun h34 => ?_)
        · skip
          refine pw_aload r_8_tellWorth_39 rfl ?_
          refine pw_aload r_8_tellWorth_40 rfl ?_
          refine pw_iload r_8_tellWorth_42 rfl ?_
          refine pw_iload r_8_tellWorth_43 rfl ?_
          refine pw_iload r_8_tellWorth_44 rfl ?_
          refine pw_callV (av := [vR 3 (p), vI (z), vI (d0), vI (k)]) (st := []) (ls0 := [some (vR 8 (0)), some (vR 3 (p)), some (vI (z)), some (vI (d0)), some (vI (k)), none]) r_8_tellWorth_46 rfl rfl rfl (Nat.le_refl _) ?_
          refine sp_X8_rate (SD := SD) (FC := FC) (KC := KC) (WT := WT) (by exact hp) (by exact hsz) (by exact hf) (by exact hpr) (by exact htx) (by exact hTX) (by exact hSD) (by exact hFC) (by exact hKC) (by exact hnA) (by exact hcA) (by exact hsA) (by omega) (by omega) (by omega) (by exact hWT) ?_
          intro q1
          refine pw_iret r_8_tellWorth_49 rfl (Nat.le_refl _) ⟨rfl, ?_⟩
          exact h2 (by omega) q1
        · skip
          refine pw_const r_8_tellWorth_37 ?_
          refine pw_iret r_8_tellWorth_38 rfl (Nat.le_refl _) ⟨rfl, ?_⟩
          exact h1 (by omega)
set_option maxRecDepth 10000 in
theorem sp_X8_tellOwed {l : Launch} {w : Wo} {d : Nat} {G : PH} {P : Option PV → PH → Prop} {p d0 k : Int} {SD : Int → Int → Int → Int → Int → Int × Int} {FC : Int → Int → Int → Int} {KC : Int → Int → Int → Int → Int} (hp : ∀ i, 0 ≤ i → i < (gF G 1 0 1) → gD G 30 0 i = some (3, i)) (hsz : 0 ≤ (gF G 1 0 1) ∧ (gF G 1 0 1) ≤ 150) (hf : 0 ≤ (gF G 9 0 0) ∧ (gF G 9 0 0) ≤ 300) (hpr : 0 ≤ (gF G 9 0 2) ∧ (gF G 9 0 2) ≤ 40) (htx : 0 ≤ (gF G 8 0 0) ∧ (gF G 8 0 0) ≤ 20) (hTX : txC G) (hSD : sdC G = SD) (hFC : fcC G = FC) (hKC : kC G = KC) (hnA : ∀ i, 0 ≤ i → i < (gF G 1 0 1) → (gF G 3 (i) 0) = i) (hcA : ∀ i, 0 ≤ i → i < (gF G 1 0 1) → 0 ≤ (gF G 3 (i) 5) ∧ (gF G 3 (i) 5) ≤ 600) (hsA : ∀ i, 0 ≤ i → i < (gF G 1 0 1) → 0 ≤ (gF G 3 (i) 2) ∧ (gF G 3 (i) 2) ≤ 1) (h1 : ¬ ((0 ≤ p ∧ p < (gF G 1 0 1)) ∧ (0 ≤ d0 ∧ d0 ≤ 600) ∧ 0 ≤ k ∧ k ≤ 600) → P (some (vI (-1))) G) (h2 : ((0 ≤ p ∧ p < (gF G 1 0 1)) ∧ (0 ≤ d0 ∧ d0 ≤ 600) ∧ 0 ≤ k ∧ k ≤ 600) → ∀ (q : RQ) (v : Int), (((0 ≤ FC 0 d0 k ∧ (SD (FC 0 d0 k) (gF G 3 (p) 2) p d0 k).2 ≠ 0) ∧ v = wr (100 + (SD (FC 0 d0 k) (gF G 3 (p) 2) p d0 k).1)) ∨ (¬ (0 ≤ FC 0 d0 k ∧ (SD (FC 0 d0 k) (gF G 3 (p) 2) p d0 k).2 ≠ 0) ∧ (0 ≤ FC 10 d0 k ∧ (SD (FC 10 d0 k) (gF G 3 (p) 2) p d0 k).2 ≠ 0) ∧ v = wr (200 + (SD (FC 10 d0 k) (gF G 3 (p) 2) p d0 k).1)) ∨ (¬ (0 ≤ FC 0 d0 k ∧ (SD (FC 0 d0 k) (gF G 3 (p) 2) p d0 k).2 ≠ 0) ∧ ¬ (0 ≤ FC 10 d0 k ∧ (SD (FC 10 d0 k) (gF G 3 (p) 2) p d0 k).2 ≠ 0) ∧ v = 0)) → P (some (vI v)) (rstC G q)) : PW l w M_X8_tellOwed (d + 129) 0 [some (vR 8 (0)), some (vI (p)), some (vI (d0)), some (vI (k)), none, none, none] [] G P := by
  have hFb : ∀ u a b, FC u a b < (gF G 8 0 0) := fun u a b => by rw [← hFC]; have := fcC_lt (G := G) htx.1 u a b; omega
  refine pw_aload r_8_tellOwed_0 rfl ?_
  refine pw_getR r_8_tellOwed_1 fs_8_2 (by decide) ?_
  refine pw_iload r_8_tellOwed_4 rfl ?_
  refine pw_callV (av := [vI (p)]) (st := []) (ls0 := [some (vR 1 (0)), some (vI (p))]) r_8_tellOwed_5 rfl rfl rfl (Nat.le_refl _) ?_
  refine sp_X1_get (by first | assumption | exact hp | omega) (by first | assumption | exact hsz | omega) ?_ ?_
  · skip
    intros
    refine pw_astore (ls' := [some (vR 8 (0)), some (vI (p)), some (vI (d0)), some (vI (k)), some (vN), none, none]) r_8_tellOwed_8 rfl rfl ?_
    refine pw_aload r_8_tellOwed_10 rfl ?_
    refine pw_ifnull r_8_tellOwed_12 (fun _ => ?_) (fun _ q => by cases q)
    refine pw_const r_8_tellOwed_29 ?_
    refine pw_iret r_8_tellOwed_30 rfl (Nat.le_refl _) ⟨rfl, ?_⟩
    first | exact h1 (by omega) | (have h9 := h2 (by omega) (rstQ G) _ (Or.inr (Or.inr ⟨by omega, by omega, rfl⟩)); rw [rstC_self] at h9; exact h9)
  · skip
    intros
    refine pw_astore (ls' := [some (vR 8 (0)), some (vI (p)), some (vI (d0)), some (vI (k)), some (vR 3 (p)), none, none]) r_8_tellOwed_8 rfl rfl ?_
    refine pw_aload r_8_tellOwed_10 rfl ?_
    refine pw_ifnull r_8_tellOwed_12 (fun q => by cases q) (fun _ _ => ?_)
    refine pw_iload r_8_tellOwed_15 rfl ?_
    refine pw_callS (av := [vI (d0)]) (st := []) (ls0 := [some (vI (d0))]) r_8_tellOwed_16 rfl rfl rfl (Nat.le_refl _) ?_
    refine sp_X11_isDay  ?_
    refine pw_if_eqB r_8_tellOwed_19 (fun h19 => ?_) (fun h19 => ?_)
    · skip
      refine pw_const r_8_tellOwed_29 ?_
      refine pw_iret r_8_tellOwed_30 rfl (Nat.le_refl _) ⟨rfl, ?_⟩
      first | exact h1 (by omega) | (have h9 := h2 (by omega) (rstQ G) _ (Or.inr (Or.inr ⟨by omega, by omega, rfl⟩)); rw [rstC_self] at h9; exact h9)
    · skip
      refine pw_iload r_8_tellOwed_22 rfl ?_
      refine pw_callS (av := [vI (k)]) (st := []) (ls0 := [some (vI (k))]) r_8_tellOwed_23 rfl rfl rfl (Nat.le_refl _) ?_
      refine sp_X11_isDay  ?_
      refine pw_if_neB r_8_tellOwed_26 (fun h26 => ?_) (fun h26 => ?_)
      · skip
        refine pw_const r_8_tellOwed_31 ?_
        refine pw_istore (ls' := [some (vR 8 (0)), some (vI (p)), some (vI (d0)), some (vI (k)), some (vR 3 (p)), some (vI (0)), none]) r_8_tellOwed_32 rfl rfl ?_
        refine pw_iload r_8_tellOwed_34 rfl ?_
        refine pw_const r_8_tellOwed_36 ?_
        refine pw_icmp_ge r_8_tellOwed_37 (fun h37 => absurd h37 (by decide)) (fun h37 => ?_)
        refine pw_aload r_8_tellOwed_40 rfl ?_
        refine pw_const r_8_tellOwed_41 ?_
        refine pw_iload r_8_tellOwed_43 rfl ?_
        refine pw_imul r_8_tellOwed_45 (by omega) ?_
        refine pw_top (b := 0) (by decide) ?_
        refine pw_const r_8_tellOwed_46 ?_
        refine pw_iadd r_8_tellOwed_47 (by omega) ?_
        refine pw_top (b := 0) (by decide) ?_
        refine pw_iload r_8_tellOwed_48 rfl ?_
        refine pw_iload r_8_tellOwed_49 rfl ?_
        refine pw_callV (av := [vI (0), vI (d0), vI (k)]) (st := []) (ls0 := [some (vR 8 (0)), some (vI (0)), some (vI (d0)), some (vI (k)), none]) r_8_tellOwed_50 rfl rfl rfl (Nat.le_refl _) ?_
        refine sp_X8_findInForce (by first | assumption | exact htx | omega) ?_
        refine pw_top (b := FC 0 d0 k) ((show fcC G 0 d0 k = FC 0 d0 k by rw [hFC])) ?_
        refine pw_istore (ls' := [some (vR 8 (0)), some (vI (p)), some (vI (d0)), some (vI (k)), some (vR 3 (p)), some (vI (0)), some (vI (FC 0 d0 k))]) r_8_tellOwed_53 rfl rfl ?_
        refine pw_aload r_8_tellOwed_55 rfl ?_
        refine pw_iload r_8_tellOwed_56 rfl ?_
        refine pw_aload r_8_tellOwed_58 rfl ?_
        refine pw_aload r_8_tellOwed_60 rfl ?_
        refine pw_getI r_8_tellOwed_62 fs_3_2 (by decide) ?_
        refine pw_iload r_8_tellOwed_65 rfl ?_
        refine pw_iload r_8_tellOwed_66 rfl ?_
        refine pw_callV (av := [vI (FC 0 d0 k), vR 3 (p), vI (gF G 3 (p) 2), vI (d0), vI (k)]) (st := []) (ls0 := [some (vR 8 (0)), some (vI (FC 0 d0 k)), some (vR 3 (p)), some (vI (gF G 3 (p) 2)), some (vI (d0)), some (vI (k)), none, none]) r_8_tellOwed_67 rfl rfl rfl (Nat.le_refl _) ?_
        refine sp_X8_give (SD := SD) (FC := FC) (KC := KC) (t := (FC 0 d0 k)) (p := p) (z := (gF G 3 (p) 2)) (by exact hp) (by exact hsz) (by exact hf) (by exact hpr) (by exact htx) (by exact hTX) (by exact hSD) (by exact hFC) (by exact hKC) (by exact hnA p (by omega) (by omega)) (by exact hcA p (by omega) (by omega)) (by first | omega | exact hsA p (by omega) (by omega)) (by omega) (by first | omega | exact hFb _ _ _) ?_ ?_
        · skip
          intro q3
          refine pw_if_eq r_8_tellOwed_70 (fun h70 => ?_) (fun h70 => absurd h70 (by decide))
          refine pw_iinc (b := 0) (ls' := [some (vR 8 (0)), some (vI (p)), some (vI (d0)), some (vI (k)), some (vR 3 (p)), some (vI (1)), some (vI (FC 0 d0 k))]) r_8_tellOwed_89 rfl rfl (by omega) rfl ?_
          refine pw_goto r_8_tellOwed_92 ?_
          refine pw_iload r_8_tellOwed_34 rfl ?_
          refine pw_const r_8_tellOwed_36 ?_
          refine pw_icmp_ge r_8_tellOwed_37 (fun h37 => absurd h37 (by decide)) (fun h37 => ?_)
          refine pw_aload r_8_tellOwed_40 rfl ?_
          refine pw_const r_8_tellOwed_41 ?_
          refine pw_iload r_8_tellOwed_43 rfl ?_
          refine pw_imul r_8_tellOwed_45 (by omega) ?_
          refine pw_top (b := 10) (by decide) ?_
          refine pw_const r_8_tellOwed_46 ?_
          refine pw_iadd r_8_tellOwed_47 (by omega) ?_
          refine pw_top (b := 10) (by decide) ?_
          refine pw_iload r_8_tellOwed_48 rfl ?_
          refine pw_iload r_8_tellOwed_49 rfl ?_
          refine pw_callV (av := [vI (10), vI (d0), vI (k)]) (st := []) (ls0 := [some (vR 8 (0)), some (vI (10)), some (vI (d0)), some (vI (k)), none]) r_8_tellOwed_50 rfl rfl rfl (Nat.le_refl _) ?_
          refine sp_X8_findInForce (by first | assumption | exact htx | omega) ?_
          refine pw_top (b := FC (10) d0 k) ((show fcC G (10) d0 k = FC (10) d0 k by rw [hFC])) ?_
          refine pw_istore (ls' := [some (vR 8 (0)), some (vI (p)), some (vI (d0)), some (vI (k)), some (vR 3 (p)), some (vI (1)), some (vI (FC (10) d0 k))]) r_8_tellOwed_53 rfl rfl ?_
          refine pw_aload r_8_tellOwed_55 rfl ?_
          refine pw_iload r_8_tellOwed_56 rfl ?_
          refine pw_aload r_8_tellOwed_58 rfl ?_
          refine pw_aload r_8_tellOwed_60 rfl ?_
          refine pw_getI r_8_tellOwed_62 fs_3_2 (by decide) ?_
          refine pw_iload r_8_tellOwed_65 rfl ?_
          refine pw_iload r_8_tellOwed_66 rfl ?_
          refine pw_callV (av := [vI (FC (10) d0 k), vR 3 (p), vI (gF G 3 (p) 2), vI (d0), vI (k)]) (st := []) (ls0 := [some (vR 8 (0)), some (vI (FC (10) d0 k)), some (vR 3 (p)), some (vI (gF G 3 (p) 2)), some (vI (d0)), some (vI (k)), none, none]) r_8_tellOwed_67 rfl rfl rfl (Nat.le_refl _) ?_
          refine sp_X8_give (SD := SD) (FC := FC) (KC := KC) (t := (FC 10 d0 k)) (p := p) (z := (gF G 3 (p) 2)) (by exact hp) (by exact hsz) (by exact hf) (by exact hpr) (by exact htx) (by exact hTX) (by exact hSD) (by exact hFC) (by exact hKC) (by exact hnA p (by omega) (by omega)) (by exact hcA p (by omega) (by omega)) (by first | omega | exact hsA p (by omega) (by omega)) (by omega) (by first | omega | exact hFb _ _ _) ?_ ?_
          · skip
            intro q6
            refine pw_if_eq r_8_tellOwed_70 (fun h70 => ?_) (fun h70 => absurd h70 (by decide))
            refine pw_iinc (b := 0) (ls' := [some (vR 8 (0)), some (vI (p)), some (vI (d0)), some (vI (k)), some (vR 3 (p)), some (vI (2)), some (vI (FC (10) d0 k))]) r_8_tellOwed_89 rfl rfl (by omega) rfl ?_
            refine pw_goto r_8_tellOwed_92 ?_
            refine pw_iload r_8_tellOwed_34 rfl ?_
            refine pw_const r_8_tellOwed_36 ?_
            refine pw_icmp_ge r_8_tellOwed_37 (fun h37 => ?_) (fun h37 => absurd h37 (by decide))
            refine pw_const r_8_tellOwed_95 ?_
            refine pw_iret r_8_tellOwed_96 rfl (Nat.le_refl _) ⟨rfl, ?_⟩
            first | exact h1 (by omega) | (have h9 := h2 (by omega) (rstQ G) _ (Or.inr (Or.inr ⟨by omega, by omega, rfl⟩)); rw [rstC_self] at h9; exact h9)
          · skip
            intro q6 q4 q5
            refine pw_if_eq r_8_tellOwed_70 (fun h70 => ?_) (fun h70 => ?_)
            · skip
              refine pw_iinc (b := 0) (ls' := [some (vR 8 (0)), some (vI (p)), some (vI (d0)), some (vI (k)), some (vR 3 (p)), some (vI (2)), some (vI (FC (10) d0 k))]) r_8_tellOwed_89 rfl rfl (by omega) rfl ?_
              refine pw_goto r_8_tellOwed_92 ?_
              refine pw_iload r_8_tellOwed_34 rfl ?_
              refine pw_const r_8_tellOwed_36 ?_
              refine pw_icmp_ge r_8_tellOwed_37 (fun h37 => ?_) (fun h37 => absurd h37 (by decide))
              refine pw_const r_8_tellOwed_95 ?_
              refine pw_iret r_8_tellOwed_96 rfl (Nat.le_refl _) ⟨rfl, ?_⟩
              first | exact h2 (by omega) q4 _ (Or.inr (Or.inr ⟨by omega, by omega, rfl⟩)) | exact h2 (by omega) q4 _ (Or.inl ⟨by omega, by rw [q5]⟩) | exact h2 (by omega) q4 _ (Or.inr (Or.inl ⟨by omega, by omega, by rw [q5]⟩))
            · skip
              refine pw_const r_8_tellOwed_73 ?_
              refine pw_iload r_8_tellOwed_75 rfl ?_
              refine pw_const r_8_tellOwed_77 ?_
              refine pw_iadd r_8_tellOwed_78 (by omega) ?_
              refine pw_top (b := 2) (by decide) ?_
              refine pw_imul r_8_tellOwed_79 (by omega) ?_
              refine pw_top (b := 200) (by decide) ?_
              refine pw_aload r_8_tellOwed_80 rfl ?_
              refine pw_getR r_8_tellOwed_81 fs_8_4 (by decide) ?_
              refine pw_getI r_8_tellOwed_84 fs_4_2 (by decide) ?_
              refine pw_top (b := q4.2.2.2.1) (rfl) ?_
              refine pw_iaddW r_8_tellOwed_87 ?_
              refine pw_iret r_8_tellOwed_88 rfl (Nat.le_refl _) ⟨rfl, ?_⟩
              first | exact h2 (by omega) q4 _ (Or.inr (Or.inr ⟨by omega, by omega, rfl⟩)) | exact h2 (by omega) q4 _ (Or.inl ⟨by omega, by rw [q5]⟩) | exact h2 (by omega) q4 _ (Or.inr (Or.inl ⟨by omega, by omega, by rw [q5]⟩))
        · skip
          intro q3 q1 q2
          refine pw_if_eq r_8_tellOwed_70 (fun h70 => ?_) (fun h70 => ?_)
          · skip
            refine pw_iinc (b := 0) (ls' := [some (vR 8 (0)), some (vI (p)), some (vI (d0)), some (vI (k)), some (vR 3 (p)), some (vI (1)), some (vI (FC 0 d0 k))]) r_8_tellOwed_89 rfl rfl (by omega) rfl ?_
            refine pw_goto r_8_tellOwed_92 ?_
            refine pw_iload r_8_tellOwed_34 rfl ?_
            refine pw_const r_8_tellOwed_36 ?_
            refine pw_icmp_ge r_8_tellOwed_37 (fun h37 => absurd h37 (by decide)) (fun h37 => ?_)
            refine pw_aload r_8_tellOwed_40 rfl ?_
            refine pw_const r_8_tellOwed_41 ?_
            refine pw_iload r_8_tellOwed_43 rfl ?_
            refine pw_imul r_8_tellOwed_45 (by omega) ?_
            refine pw_top (b := 10) (by decide) ?_
            refine pw_const r_8_tellOwed_46 ?_
            refine pw_iadd r_8_tellOwed_47 (by omega) ?_
            refine pw_top (b := 10) (by decide) ?_
            refine pw_iload r_8_tellOwed_48 rfl ?_
            refine pw_iload r_8_tellOwed_49 rfl ?_
            refine pw_callV (av := [vI (10), vI (d0), vI (k)]) (st := []) (ls0 := [some (vR 8 (0)), some (vI (10)), some (vI (d0)), some (vI (k)), none]) r_8_tellOwed_50 rfl rfl rfl (Nat.le_refl _) ?_
            refine sp_X8_findInForce (by first | assumption | exact htx | omega) ?_
            refine pw_top (b := lastOf (fun i => ((gA G 80 (0) (i)) = 10 ∧ (gA G 81 (0) (i)) ≤ k ∧ (gA G 82 (0) (i)) ≤ d0)) (fun i => i) (-1) (gF G 8 (0) 0)) (by first | rfl | simp (disch := decide) [gF_sF, gF_sA, gF_uA, gF_sD, gA_sF, gA_sA, gA_uA, gA_sD, gD_sF, gD_sA, gD_uA, gD_sD]) ?_
            refine pw_top (b := FC (10) d0 k) ((show fcC G (10) d0 k = FC (10) d0 k by rw [hFC])) ?_
            refine pw_istore (ls' := [some (vR 8 (0)), some (vI (p)), some (vI (d0)), some (vI (k)), some (vR 3 (p)), some (vI (1)), some (vI (FC (10) d0 k))]) r_8_tellOwed_53 rfl rfl ?_
            refine pw_aload r_8_tellOwed_55 rfl ?_
            refine pw_iload r_8_tellOwed_56 rfl ?_
            refine pw_aload r_8_tellOwed_58 rfl ?_
            refine pw_aload r_8_tellOwed_60 rfl ?_
            refine pw_getIv (v := gF G 3 (p) 2) r_8_tellOwed_62 fs_3_2 (by decide) (by first | rfl | simp [gF_sF, gF_sA, gF_uA, gF_sD, gA_sF, gA_sA, gA_uA, gA_sD, gD_sF, gD_sA, gD_uA, gD_sD]) ?_
            refine pw_iload r_8_tellOwed_65 rfl ?_
            refine pw_iload r_8_tellOwed_66 rfl ?_
            refine pw_callV (av := [vI (FC (10) d0 k), vR 3 (p), vI (gF G 3 (p) 2), vI (d0), vI (k)]) (st := []) (ls0 := [some (vR 8 (0)), some (vI (FC (10) d0 k)), some (vR 3 (p)), some (vI (gF G 3 (p) 2)), some (vI (d0)), some (vI (k)), none, none]) r_8_tellOwed_67 rfl rfl rfl (Nat.le_refl _) ?_
            refine sp_X8_give (SD := SD) (FC := FC) (KC := KC) (t := (FC 10 d0 k)) (p := p) (z := (gF G 3 (p) 2)) (by exact hp) (by exact hsz) (by exact hf) (by exact hpr) (by exact htx) (by exact hTX) (by exact hSD) (by exact hFC) (by exact hKC) (by exact hnA p (by omega) (by omega)) (by exact hcA p (by omega) (by omega)) (by first | omega | exact hsA p (by omega) (by omega)) (by omega) (by first | omega | exact hFb _ _ _) ?_ ?_
            · skip
              intro q6
              refine pw_if_eq r_8_tellOwed_70 (fun h70 => ?_) (fun h70 => absurd h70 (by decide))
              refine pw_iinc (b := 0) (ls' := [some (vR 8 (0)), some (vI (p)), some (vI (d0)), some (vI (k)), some (vR 3 (p)), some (vI (2)), some (vI (FC (10) d0 k))]) r_8_tellOwed_89 rfl rfl (by omega) rfl ?_
              refine pw_goto r_8_tellOwed_92 ?_
              refine pw_iload r_8_tellOwed_34 rfl ?_
              refine pw_const r_8_tellOwed_36 ?_
              refine pw_icmp_ge r_8_tellOwed_37 (fun h37 => ?_) (fun h37 => absurd h37 (by decide))
              refine pw_const r_8_tellOwed_95 ?_
              refine pw_iret r_8_tellOwed_96 rfl (Nat.le_refl _) ⟨rfl, ?_⟩
              first | exact h2 (by omega) q1 _ (Or.inr (Or.inr ⟨by omega, by omega, rfl⟩)) | exact h2 (by omega) q1 _ (Or.inl ⟨by omega, by rw [q2]⟩) | exact h2 (by omega) q1 _ (Or.inr (Or.inl ⟨by omega, by omega, by rw [q2]⟩))
            · skip
              intro q6 q4 q5
              refine pw_eqG (G' := rstC G q4) (rstC_rst _ _ _) ?_
              refine pw_if_eq r_8_tellOwed_70 (fun h70 => ?_) (fun h70 => ?_)
              · skip
                refine pw_iinc (b := 0) (ls' := [some (vR 8 (0)), some (vI (p)), some (vI (d0)), some (vI (k)), some (vR 3 (p)), some (vI (2)), some (vI (FC (10) d0 k))]) r_8_tellOwed_89 rfl rfl (by omega) rfl ?_
                refine pw_goto r_8_tellOwed_92 ?_
                refine pw_iload r_8_tellOwed_34 rfl ?_
                refine pw_const r_8_tellOwed_36 ?_
                refine pw_icmp_ge r_8_tellOwed_37 (fun h37 => ?_) (fun h37 => absurd h37 (by decide))
                refine pw_const r_8_tellOwed_95 ?_
                refine pw_iret r_8_tellOwed_96 rfl (Nat.le_refl _) ⟨rfl, ?_⟩
                first | exact h2 (by omega) q4 _ (Or.inr (Or.inr ⟨by omega, by omega, rfl⟩)) | exact h2 (by omega) q4 _ (Or.inl ⟨by omega, by rw [q5]⟩) | exact h2 (by omega) q4 _ (Or.inr (Or.inl ⟨by omega, by omega, by rw [q5]⟩))
              · skip
                refine pw_const r_8_tellOwed_73 ?_
                refine pw_iload r_8_tellOwed_75 rfl ?_
                refine pw_const r_8_tellOwed_77 ?_
                refine pw_iadd r_8_tellOwed_78 (by omega) ?_
                refine pw_top (b := 2) (by decide) ?_
                refine pw_imul r_8_tellOwed_79 (by omega) ?_
                refine pw_top (b := 200) (by decide) ?_
                refine pw_aload r_8_tellOwed_80 rfl ?_
                refine pw_getR r_8_tellOwed_81 fs_8_4 (by decide) ?_
                refine pw_getI r_8_tellOwed_84 fs_4_2 (by decide) ?_
                refine pw_top (b := q4.2.2.2.1) (rfl) ?_
                refine pw_iaddW r_8_tellOwed_87 ?_
                refine pw_iret r_8_tellOwed_88 rfl (Nat.le_refl _) ⟨rfl, ?_⟩
                first | exact h2 (by omega) q4 _ (Or.inr (Or.inr ⟨by omega, by omega, rfl⟩)) | exact h2 (by omega) q4 _ (Or.inl ⟨by omega, by rw [q5]⟩) | exact h2 (by omega) q4 _ (Or.inr (Or.inl ⟨by omega, by omega, by rw [q5]⟩))
          · skip
            refine pw_const r_8_tellOwed_73 ?_
            refine pw_iload r_8_tellOwed_75 rfl ?_
            refine pw_const r_8_tellOwed_77 ?_
            refine pw_iadd r_8_tellOwed_78 (by omega) ?_
            refine pw_top (b := 1) (by decide) ?_
            refine pw_imul r_8_tellOwed_79 (by omega) ?_
            refine pw_top (b := 100) (by decide) ?_
            refine pw_aload r_8_tellOwed_80 rfl ?_
            refine pw_getR r_8_tellOwed_81 fs_8_4 (by decide) ?_
            refine pw_getI r_8_tellOwed_84 fs_4_2 (by decide) ?_
            refine pw_top (b := q1.2.2.2.1) (rfl) ?_
            refine pw_iaddW r_8_tellOwed_87 ?_
            refine pw_iret r_8_tellOwed_88 rfl (Nat.le_refl _) ⟨rfl, ?_⟩
            first | exact h2 (by omega) q1 _ (Or.inr (Or.inr ⟨by omega, by omega, rfl⟩)) | exact h2 (by omega) q1 _ (Or.inl ⟨by omega, by rw [q2]⟩) | exact h2 (by omega) q1 _ (Or.inr (Or.inl ⟨by omega, by omega, by rw [q2]⟩))
      · skip
        refine pw_const r_8_tellOwed_29 ?_
        refine pw_iret r_8_tellOwed_30 rfl (Nat.le_refl _) ⟨rfl, ?_⟩
        first | exact h1 (by omega) | (have h9 := h2 (by omega) (rstQ G) _ (Or.inr (Or.inr ⟨by omega, by omega, rfl⟩)); rw [rstC_self] at h9; exact h9)
set_option maxRecDepth 10000 in
theorem sp_X8_tellSays {l : Launch} {w : Wo} {d : Nat} {G : PH} {P : Option PV → PH → Prop} {t p u d0 k : Int} {SD : Int → Int → Int → Int → Int → Int × Int} {FC : Int → Int → Int → Int} {KC : Int → Int → Int → Int → Int} (hp : ∀ i, 0 ≤ i → i < (gF G 1 0 1) → gD G 30 0 i = some (3, i)) (hsz : 0 ≤ (gF G 1 0 1) ∧ (gF G 1 0 1) ≤ 150) (hf : 0 ≤ (gF G 9 0 0) ∧ (gF G 9 0 0) ≤ 300) (hpr : 0 ≤ (gF G 9 0 2) ∧ (gF G 9 0 2) ≤ 40) (htx : 0 ≤ (gF G 8 0 0) ∧ (gF G 8 0 0) ≤ 20) (hTX : txC G) (hSD : sdC G = SD) (hFC : fcC G = FC) (hKC : kC G = KC) (hnA : ∀ i, 0 ≤ i → i < (gF G 1 0 1) → (gF G 3 (i) 0) = i) (hcA : ∀ i, 0 ≤ i → i < (gF G 1 0 1) → 0 ≤ (gF G 3 (i) 5) ∧ (gF G 3 (i) 5) ≤ 600) (hsA : ∀ i, 0 ≤ i → i < (gF G 1 0 1) → 0 ≤ (gF G 3 (i) 2) ∧ (gF G 3 (i) 2) ≤ 1) (h1 : ¬ ((0 ≤ t ∧ t < (gF G 8 0 0)) ∧ (0 ≤ p ∧ p < (gF G 1 0 1)) ∧ ((0 ≤ d0 ∧ d0 ≤ 600) ∧ 0 ≤ k ∧ k ≤ 600) ∧ (u = 0 ∨ u = 1 ∨ u = 10 ∨ u = 11)) → P (some (vI (-2000000000))) G) (h2 : ((0 ≤ t ∧ t < (gF G 8 0 0)) ∧ (0 ≤ p ∧ p < (gF G 1 0 1)) ∧ ((0 ≤ d0 ∧ d0 ≤ 600) ∧ 0 ≤ k ∧ k ≤ 600) ∧ (u = 0 ∨ u = 1 ∨ u = 10 ∨ u = 11)) → ∀ (q : RQ) (v : Int), ((u % 10 = 0 ∧ v = (SD t (u / 10) p d0 k).2) ∨ (u % 10 = 1 ∧ v = (SD t (u / 10) p d0 k).1)) → P (some (vI v)) (rstC G q)) : PW l w M_X8_tellSays (d + 129) 0 [some (vR 8 (0)), some (vI (t)), some (vI (p)), some (vI (u)), some (vI (d0)), some (vI (k)), none] [] G P := by
  refine pw_aload r_8_tellSays_0 rfl ?_
  refine pw_getR r_8_tellSays_1 fs_8_2 (by decide) ?_
  refine pw_iload r_8_tellSays_4 rfl ?_
  refine pw_callV (av := [vI (p)]) (st := []) (ls0 := [some (vR 1 (0)), some (vI (p))]) r_8_tellSays_5 rfl rfl rfl (Nat.le_refl _) ?_
  refine sp_X1_get (by first | assumption | exact hp | omega) (by first | assumption | exact hsz | omega) ?_ ?_
  · skip
    intros
    refine pw_astore (ls' := [some (vR 8 (0)), some (vI (t)), some (vI (p)), some (vI (u)), some (vI (d0)), some (vI (k)), some (vN)]) r_8_tellSays_8 rfl rfl ?_
    refine pw_iload r_8_tellSays_10 rfl ?_
    refine pw_if_lt r_8_tellSays_11 (fun h11 => ?_) (fun h11 => ?_)
    · skip
      refine pw_const r_8_tellSays_43 ?_
      refine pw_iret r_8_tellSays_45 rfl (Nat.le_refl _) ⟨rfl, ?_⟩
      exact h1 (by omega)
    · skip
      refine pw_iload r_8_tellSays_14 rfl ?_
      refine pw_aload r_8_tellSays_15 rfl ?_
      refine pw_getI r_8_tellSays_16 fs_8_0 (by decide) ?_
      refine pw_icmp_ge r_8_tellSays_19 (fun h19 => ?_) (fun h19 => ?_)
      · skip
        refine pw_const r_8_tellSays_43 ?_
        refine pw_iret r_8_tellSays_45 rfl (Nat.le_refl _) ⟨rfl, ?_⟩
        exact h1 (by omega)
      · skip
        refine pw_aload r_8_tellSays_22 rfl ?_
        refine pw_ifnull r_8_tellSays_24 (fun _ => ?_) (fun _ q => by cases q)
        refine pw_const r_8_tellSays_43 ?_
        refine pw_iret r_8_tellSays_45 rfl (Nat.le_refl _) ⟨rfl, ?_⟩
        exact h1 (by omega)
  · skip
    intros
    refine pw_astore (ls' := [some (vR 8 (0)), some (vI (t)), some (vI (p)), some (vI (u)), some (vI (d0)), some (vI (k)), some (vR 3 (p))]) r_8_tellSays_8 rfl rfl ?_
    refine pw_iload r_8_tellSays_10 rfl ?_
    refine pw_if_lt r_8_tellSays_11 (fun h11 => ?_) (fun h11 => ?_)
    · skip
      refine pw_const r_8_tellSays_43 ?_
      refine pw_iret r_8_tellSays_45 rfl (Nat.le_refl _) ⟨rfl, ?_⟩
      exact h1 (by omega)
    · skip
      refine pw_iload r_8_tellSays_14 rfl ?_
      refine pw_aload r_8_tellSays_15 rfl ?_
      refine pw_getI r_8_tellSays_16 fs_8_0 (by decide) ?_
      refine pw_icmp_ge r_8_tellSays_19 (fun h19 => ?_) (fun h19 => ?_)
      · skip
        refine pw_const r_8_tellSays_43 ?_
        refine pw_iret r_8_tellSays_45 rfl (Nat.le_refl _) ⟨rfl, ?_⟩
        exact h1 (by omega)
      · skip
        refine pw_aload r_8_tellSays_22 rfl ?_
        refine pw_ifnull r_8_tellSays_24 (fun q => by cases q) (fun _ _ => ?_)
        refine pw_iload r_8_tellSays_27 rfl ?_
        refine pw_callS (av := [vI (d0)]) (st := []) (ls0 := [some (vI (d0))]) r_8_tellSays_29 rfl rfl rfl (Nat.le_refl _) ?_
        refine sp_X11_isDay  ?_
        refine pw_if_eqB r_8_tellSays_32 (fun h32 => ?_) (fun h32 => ?_)
        · skip
          refine pw_const r_8_tellSays_43 ?_
          refine pw_iret r_8_tellSays_45 rfl (Nat.le_refl _) ⟨rfl, ?_⟩
          exact h1 (by omega)
        · skip
          refine pw_iload r_8_tellSays_35 rfl ?_
          refine pw_callS (av := [vI (k)]) (st := []) (ls0 := [some (vI (k))]) r_8_tellSays_37 rfl rfl rfl (Nat.le_refl _) ?_
          refine sp_X11_isDay  ?_
          refine pw_if_neB r_8_tellSays_40 (fun h40 => ?_) (fun h40 => ?_)
          · skip
            refine pw_iload r_8_tellSays_46 rfl ?_
            refine pw_lswitch r_8_tellSays_47 ?_
            refine pw_swt (fun h47 => ?_) (fun h47_0 => ?_)
            · skip
              refine pw_aload r_8_tellSays_88 rfl ?_
              refine pw_iload r_8_tellSays_89 rfl ?_
              refine pw_aload r_8_tellSays_90 rfl ?_
              refine pw_iload r_8_tellSays_92 rfl ?_
              refine pw_const r_8_tellSays_93 ?_
              refine pw_idivN r_8_tellSays_95 (by omega) (by omega) (by omega) ?_
              refine pw_iload r_8_tellSays_96 rfl ?_
              refine pw_iload r_8_tellSays_98 rfl ?_
              refine pw_callV (av := [vI (t), vR 3 (p), vI ((u / 10)), vI (d0), vI (k)]) (st := []) (ls0 := [some (vR 8 (0)), some (vI (t)), some (vR 3 (p)), some (vI ((u / 10))), some (vI (d0)), some (vI (k)), none, none]) r_8_tellSays_100 rfl rfl rfl (Nat.le_refl _) ?_
              refine sp_X8_give (SD := SD) (FC := FC) (KC := KC) (t := t) (p := p) (z := (u / 10)) (by exact hp) (by exact hsz) (by exact hf) (by exact hpr) (by exact htx) (by exact hTX) (by exact hSD) (by exact hFC) (by exact hKC) (by exact hnA p (by omega) (by omega)) (by exact hcA p (by omega) (by omega)) (by omega) (by omega) (by omega) ?_ ?_
              · skip
                exact fun q9 => absurd q9 (by omega)
              · skip
                intro q3 q1 q2
                refine pw_iret r_8_tellSays_103 rfl (Nat.le_refl _) ⟨rfl, ?_⟩
                exact h2 (by omega) q1 _ (Or.inl ⟨by omega, rfl⟩)
            refine pw_swt (fun h47 => ?_) (fun h47_1 => ?_)
            · skip
              refine pw_aload r_8_tellSays_104 rfl ?_
              refine pw_iload r_8_tellSays_105 rfl ?_
              refine pw_aload r_8_tellSays_106 rfl ?_
              refine pw_iload r_8_tellSays_108 rfl ?_
              refine pw_const r_8_tellSays_109 ?_
              refine pw_idivN r_8_tellSays_111 (by omega) (by omega) (by omega) ?_
              refine pw_iload r_8_tellSays_112 rfl ?_
              refine pw_iload r_8_tellSays_114 rfl ?_
              refine pw_callV (av := [vI (t), vR 3 (p), vI ((u / 10)), vI (d0), vI (k)]) (st := []) (ls0 := [some (vR 8 (0)), some (vI (t)), some (vR 3 (p)), some (vI ((u / 10))), some (vI (d0)), some (vI (k)), none, none]) r_8_tellSays_116 rfl rfl rfl (Nat.le_refl _) ?_
              refine sp_X8_give (SD := SD) (FC := FC) (KC := KC) (t := t) (p := p) (z := (u / 10)) (by exact hp) (by exact hsz) (by exact hf) (by exact hpr) (by exact htx) (by exact hTX) (by exact hSD) (by exact hFC) (by exact hKC) (by exact hnA p (by omega) (by omega)) (by exact hcA p (by omega) (by omega)) (by omega) (by omega) (by omega) ?_ ?_
              · skip
                exact fun q9 => absurd q9 (by omega)
              · skip
                intro q3 q1 q2
                refine pw_pop r_8_tellSays_119 rfl ?_
                refine pw_aload r_8_tellSays_120 rfl ?_
                refine pw_getR r_8_tellSays_121 fs_8_4 (by decide) ?_
                refine pw_getI r_8_tellSays_124 fs_4_2 (by decide) ?_
                refine pw_top (b := q1.2.2.2.1) (rfl) ?_
                refine pw_iret r_8_tellSays_127 rfl (Nat.le_refl _) ⟨rfl, ?_⟩
                exact h2 (by omega) q1 _ (Or.inr ⟨by omega, q2⟩)
            refine pw_swt (fun h47 => ?_) (fun h47_10 => ?_)
            · skip
              refine pw_aload r_8_tellSays_88 rfl ?_
              refine pw_iload r_8_tellSays_89 rfl ?_
              refine pw_aload r_8_tellSays_90 rfl ?_
              refine pw_iload r_8_tellSays_92 rfl ?_
              refine pw_const r_8_tellSays_93 ?_
              refine pw_idivN r_8_tellSays_95 (by omega) (by omega) (by omega) ?_
              refine pw_iload r_8_tellSays_96 rfl ?_
              refine pw_iload r_8_tellSays_98 rfl ?_
              refine pw_callV (av := [vI (t), vR 3 (p), vI ((u / 10)), vI (d0), vI (k)]) (st := []) (ls0 := [some (vR 8 (0)), some (vI (t)), some (vR 3 (p)), some (vI ((u / 10))), some (vI (d0)), some (vI (k)), none, none]) r_8_tellSays_100 rfl rfl rfl (Nat.le_refl _) ?_
              refine sp_X8_give (SD := SD) (FC := FC) (KC := KC) (t := t) (p := p) (z := (u / 10)) (by exact hp) (by exact hsz) (by exact hf) (by exact hpr) (by exact htx) (by exact hTX) (by exact hSD) (by exact hFC) (by exact hKC) (by exact hnA p (by omega) (by omega)) (by exact hcA p (by omega) (by omega)) (by omega) (by omega) (by omega) ?_ ?_
              · skip
                exact fun q9 => absurd q9 (by omega)
              · skip
                intro q3 q1 q2
                refine pw_iret r_8_tellSays_103 rfl (Nat.le_refl _) ⟨rfl, ?_⟩
                exact h2 (by omega) q1 _ (Or.inl ⟨by omega, rfl⟩)
            refine pw_swt (fun h47 => ?_) (fun h47_11 => ?_)
            · skip
              refine pw_aload r_8_tellSays_104 rfl ?_
              refine pw_iload r_8_tellSays_105 rfl ?_
              refine pw_aload r_8_tellSays_106 rfl ?_
              refine pw_iload r_8_tellSays_108 rfl ?_
              refine pw_const r_8_tellSays_109 ?_
              refine pw_idivN r_8_tellSays_111 (by omega) (by omega) (by omega) ?_
              refine pw_iload r_8_tellSays_112 rfl ?_
              refine pw_iload r_8_tellSays_114 rfl ?_
              refine pw_callV (av := [vI (t), vR 3 (p), vI ((u / 10)), vI (d0), vI (k)]) (st := []) (ls0 := [some (vR 8 (0)), some (vI (t)), some (vR 3 (p)), some (vI ((u / 10))), some (vI (d0)), some (vI (k)), none, none]) r_8_tellSays_116 rfl rfl rfl (Nat.le_refl _) ?_
              refine sp_X8_give (SD := SD) (FC := FC) (KC := KC) (t := t) (p := p) (z := (u / 10)) (by exact hp) (by exact hsz) (by exact hf) (by exact hpr) (by exact htx) (by exact hTX) (by exact hSD) (by exact hFC) (by exact hKC) (by exact hnA p (by omega) (by omega)) (by exact hcA p (by omega) (by omega)) (by omega) (by omega) (by omega) ?_ ?_
              · skip
                exact fun q9 => absurd q9 (by omega)
              · skip
                intro q3 q1 q2
                refine pw_pop r_8_tellSays_119 rfl ?_
                refine pw_aload r_8_tellSays_120 rfl ?_
                refine pw_getR r_8_tellSays_121 fs_8_4 (by decide) ?_
                refine pw_getI r_8_tellSays_124 fs_4_2 (by decide) ?_
                refine pw_top (b := q1.2.2.2.1) (rfl) ?_
                refine pw_iret r_8_tellSays_127 rfl (Nat.le_refl _) ⟨rfl, ?_⟩
                exact h2 (by omega) q1 _ (Or.inr ⟨by omega, q2⟩)
            refine pw_swd ?_
            refine pw_const r_8_tellSays_128 ?_
            refine pw_iret r_8_tellSays_130 rfl (Nat.le_refl _) ⟨rfl, ?_⟩
            exact h1 (by omega)
          · skip
            refine pw_const r_8_tellSays_43 ?_
            refine pw_iret r_8_tellSays_45 rfl (Nat.le_refl _) ⟨rfl, ?_⟩
            exact h1 (by omega)
set_option maxRecDepth 10000 in
theorem sp_X11_says {l : Launch} {w : Wo} {d : Nat} {G : PH} {P : Option PV → PH → Prop} {t p u d0 k : Int} {SD : Int → Int → Int → Int → Int → Int × Int} {FC : Int → Int → Int → Int} {KC : Int → Int → Int → Int → Int} (hp : ∀ i, 0 ≤ i → i < (gF G 1 0 1) → gD G 30 0 i = some (3, i)) (hsz : 0 ≤ (gF G 1 0 1) ∧ (gF G 1 0 1) ≤ 150) (hf : 0 ≤ (gF G 9 0 0) ∧ (gF G 9 0 0) ≤ 300) (hpr : 0 ≤ (gF G 9 0 2) ∧ (gF G 9 0 2) ≤ 40) (htx : 0 ≤ (gF G 8 0 0) ∧ (gF G 8 0 0) ≤ 20) (hTX : txC G) (hSD : sdC G = SD) (hFC : fcC G = FC) (hKC : kC G = KC) (hnA : ∀ i, 0 ≤ i → i < (gF G 1 0 1) → (gF G 3 (i) 0) = i) (hcA : ∀ i, 0 ≤ i → i < (gF G 1 0 1) → 0 ≤ (gF G 3 (i) 5) ∧ (gF G 3 (i) 5) ≤ 600) (hsA : ∀ i, 0 ≤ i → i < (gF G 1 0 1) → 0 ≤ (gF G 3 (i) 2) ∧ (gF G 3 (i) 2) ≤ 1) (h1 : ¬ ((0 ≤ t ∧ t < (gF G 8 0 0)) ∧ (0 ≤ p ∧ p < (gF G 1 0 1)) ∧ ((0 ≤ d0 ∧ d0 ≤ 600) ∧ 0 ≤ k ∧ k ≤ 600) ∧ (u = 0 ∨ u = 1 ∨ u = 10 ∨ u = 11)) → P (some (vI (-2000000000))) G) (h2 : ((0 ≤ t ∧ t < (gF G 8 0 0)) ∧ (0 ≤ p ∧ p < (gF G 1 0 1)) ∧ ((0 ≤ d0 ∧ d0 ≤ 600) ∧ 0 ≤ k ∧ k ≤ 600) ∧ (u = 0 ∨ u = 1 ∨ u = 10 ∨ u = 11)) → ∀ (q : RQ) (v : Int), ((u % 10 = 0 ∧ v = (SD t (u / 10) p d0 k).2) ∨ (u % 10 = 1 ∧ v = (SD t (u / 10) p d0 k).1)) → P (some (vI v)) (rstC G q)) : PW l w M_X11_says (d + 130) 0 [some (vR 11 (0)), some (vI (t)), some (vI (p)), some (vI (u)), some (vI (d0)), some (vI (k))] [] G P := by
  refine pw_aload r_11_says_0 rfl ?_
  refine pw_getR r_11_says_1 fs_11_3 (by decide) ?_
  refine pw_iload r_11_says_4 rfl ?_
  refine pw_iload r_11_says_5 rfl ?_
  refine pw_iload r_11_says_6 rfl ?_
  refine pw_iload r_11_says_7 rfl ?_
  refine pw_iload r_11_says_9 rfl ?_
  refine pw_callV (av := [vI (t), vI (p), vI (u), vI (d0), vI (k)]) (st := []) (ls0 := [some (vR 8 (0)), some (vI (t)), some (vI (p)), some (vI (u)), some (vI (d0)), some (vI (k)), none]) r_11_says_11 rfl rfl rfl (Nat.le_refl _) ?_
  refine sp_X8_tellSays (by first | assumption | exact hp | omega) (by first | assumption | exact hsz | omega) (by first | assumption | exact hf | omega) (by first | assumption | exact hpr | omega) (by first | assumption | exact htx | omega) (by first | assumption | exact hTX | omega) (by first | assumption | exact hSD | omega) (by first | assumption | exact hFC | omega) (by first | assumption | exact hKC | omega) (by first | assumption | exact hnA | omega) (by first | assumption | exact hcA | omega) (by first | assumption | exact hsA | omega) ?_ ?_
  · skip
    intro q1
    refine pw_iret r_11_says_14 rfl (Nat.le_refl _) ⟨rfl, ?_⟩
    exact h1 q1
  · skip
    intro q1 q v q2
    refine pw_iret r_11_says_14 rfl (Nat.le_refl _) ⟨rfl, ?_⟩
    exact h2 q1 q v q2
set_option maxRecDepth 10000 in
theorem sp_X11_owed {l : Launch} {w : Wo} {d : Nat} {G : PH} {P : Option PV → PH → Prop} {p d0 k : Int} {SD : Int → Int → Int → Int → Int → Int × Int} {FC : Int → Int → Int → Int} {KC : Int → Int → Int → Int → Int} (hp : ∀ i, 0 ≤ i → i < (gF G 1 0 1) → gD G 30 0 i = some (3, i)) (hsz : 0 ≤ (gF G 1 0 1) ∧ (gF G 1 0 1) ≤ 150) (hf : 0 ≤ (gF G 9 0 0) ∧ (gF G 9 0 0) ≤ 300) (hpr : 0 ≤ (gF G 9 0 2) ∧ (gF G 9 0 2) ≤ 40) (htx : 0 ≤ (gF G 8 0 0) ∧ (gF G 8 0 0) ≤ 20) (hTX : txC G) (hSD : sdC G = SD) (hFC : fcC G = FC) (hKC : kC G = KC) (hnA : ∀ i, 0 ≤ i → i < (gF G 1 0 1) → (gF G 3 (i) 0) = i) (hcA : ∀ i, 0 ≤ i → i < (gF G 1 0 1) → 0 ≤ (gF G 3 (i) 5) ∧ (gF G 3 (i) 5) ≤ 600) (hsA : ∀ i, 0 ≤ i → i < (gF G 1 0 1) → 0 ≤ (gF G 3 (i) 2) ∧ (gF G 3 (i) 2) ≤ 1) (h1 : ¬ ((0 ≤ p ∧ p < (gF G 1 0 1)) ∧ (0 ≤ d0 ∧ d0 ≤ 600) ∧ 0 ≤ k ∧ k ≤ 600) → P (some (vI (-1))) G) (h2 : ((0 ≤ p ∧ p < (gF G 1 0 1)) ∧ (0 ≤ d0 ∧ d0 ≤ 600) ∧ 0 ≤ k ∧ k ≤ 600) → ∀ (q : RQ) (v : Int), (((0 ≤ FC 0 d0 k ∧ (SD (FC 0 d0 k) (gF G 3 (p) 2) p d0 k).2 ≠ 0) ∧ v = wr (100 + (SD (FC 0 d0 k) (gF G 3 (p) 2) p d0 k).1)) ∨ (¬ (0 ≤ FC 0 d0 k ∧ (SD (FC 0 d0 k) (gF G 3 (p) 2) p d0 k).2 ≠ 0) ∧ (0 ≤ FC 10 d0 k ∧ (SD (FC 10 d0 k) (gF G 3 (p) 2) p d0 k).2 ≠ 0) ∧ v = wr (200 + (SD (FC 10 d0 k) (gF G 3 (p) 2) p d0 k).1)) ∨ (¬ (0 ≤ FC 0 d0 k ∧ (SD (FC 0 d0 k) (gF G 3 (p) 2) p d0 k).2 ≠ 0) ∧ ¬ (0 ≤ FC 10 d0 k ∧ (SD (FC 10 d0 k) (gF G 3 (p) 2) p d0 k).2 ≠ 0) ∧ v = 0)) → P (some (vI v)) (rstC G q)) : PW l w M_X11_owed (d + 130) 0 [some (vR 11 (0)), some (vI (p)), some (vI (d0)), some (vI (k))] [] G P := by
  refine pw_aload r_11_owed_0 rfl ?_
  refine pw_getR r_11_owed_1 fs_11_3 (by decide) ?_
  refine pw_iload r_11_owed_4 rfl ?_
  refine pw_iload r_11_owed_5 rfl ?_
  refine pw_iload r_11_owed_6 rfl ?_
  refine pw_callV (av := [vI (p), vI (d0), vI (k)]) (st := []) (ls0 := [some (vR 8 (0)), some (vI (p)), some (vI (d0)), some (vI (k)), none, none, none]) r_11_owed_7 rfl rfl rfl (Nat.le_refl _) ?_
  refine sp_X8_tellOwed (by first | assumption | exact hp | omega) (by first | assumption | exact hsz | omega) (by first | assumption | exact hf | omega) (by first | assumption | exact hpr | omega) (by first | assumption | exact htx | omega) (by first | assumption | exact hTX | omega) (by first | assumption | exact hSD | omega) (by first | assumption | exact hFC | omega) (by first | assumption | exact hKC | omega) (by first | assumption | exact hnA | omega) (by first | assumption | exact hcA | omega) (by first | assumption | exact hsA | omega) ?_ ?_
  · skip
    intro q1
    refine pw_iret r_11_owed_10 rfl (Nat.le_refl _) ⟨rfl, ?_⟩
    exact h1 q1
  · skip
    intro q1 q v q2
    refine pw_iret r_11_owed_10 rfl (Nat.le_refl _) ⟨rfl, ?_⟩
    exact h2 q1 q v q2
set_option maxRecDepth 10000 in
theorem sp_X11_mayStay {l : Launch} {w : Wo} {d : Nat} {G : PH} {P : Option PV → PH → Prop} {p d0 k : Int} {ST : Int → Int → Int → Prop} {SD : Int → Int → Int → Int → Int → Int × Int} {FC : Int → Int → Int → Int} {KC : Int → Int → Int → Int → Int} (hp : ∀ i, 0 ≤ i → i < (gF G 1 0 1) → gD G 30 0 i = some (3, i)) (hsz : 0 ≤ (gF G 1 0 1) ∧ (gF G 1 0 1) ≤ 150) (hf : 0 ≤ (gF G 9 0 0) ∧ (gF G 9 0 0) ≤ 300) (hpr : 0 ≤ (gF G 9 0 2) ∧ (gF G 9 0 2) ≤ 40) (htx : 0 ≤ (gF G 8 0 0) ∧ (gF G 8 0 0) ≤ 20) (hTX : txC G) (hSD : sdC G = SD) (hFC : fcC G = FC) (hKC : kC G = KC) (hnA : ∀ i, 0 ≤ i → i < (gF G 1 0 1) → (gF G 3 (i) 0) = i) (hcA : ∀ i, 0 ≤ i → i < (gF G 1 0 1) → 0 ≤ (gF G 3 (i) 5) ∧ (gF G 3 (i) 5) ≤ 600) (hsA : ∀ i, 0 ≤ i → i < (gF G 1 0 1) → 0 ≤ (gF G 3 (i) 2) ∧ (gF G 3 (i) 2) ≤ 1) (hST : stC G = ST) (h1 : ¬ ((0 ≤ p ∧ p < (gF G 1 0 1)) ∧ (0 ≤ d0 ∧ d0 ≤ 600) ∧ 0 ≤ k ∧ k ≤ 600) → P (some (vI (-1))) G) (h2 : ((0 ≤ p ∧ p < (gF G 1 0 1)) ∧ (0 ≤ d0 ∧ d0 ≤ 600) ∧ 0 ≤ k ∧ k ≤ 600) → ∀ q : RQ, P (some (vI (b2i (ST p d0 k)))) (rstC G q)) : PW l w M_X11_mayStay (d + 130) 0 [some (vR 11 (0)), some (vI (p)), some (vI (d0)), some (vI (k))] [] G P := by
  refine pw_aload r_11_mayStay_0 rfl ?_
  refine pw_getR r_11_mayStay_1 fs_11_3 (by decide) ?_
  refine pw_iload r_11_mayStay_4 rfl ?_
  refine pw_iload r_11_mayStay_5 rfl ?_
  refine pw_iload r_11_mayStay_6 rfl ?_
  refine pw_callV (av := [vI (p), vI (d0), vI (k)]) (st := []) (ls0 := [some (vR 8 (0)), some (vI (p)), some (vI (d0)), some (vI (k)), none]) r_11_mayStay_7 rfl rfl rfl (Nat.le_refl _) ?_
  refine sp_X8_tellMayStay (by first | assumption | exact hp | omega) (by first | assumption | exact hsz | omega) (by first | assumption | exact hf | omega) (by first | assumption | exact hpr | omega) (by first | assumption | exact htx | omega) (by first | assumption | exact hTX | omega) (by first | assumption | exact hSD | omega) (by first | assumption | exact hFC | omega) (by first | assumption | exact hKC | omega) (by first | assumption | exact hnA | omega) (by first | assumption | exact hcA | omega) (by first | assumption | exact hsA | omega) (by first | assumption | exact hST | omega) ?_ ?_
  · skip
    intro q1
    refine pw_iret r_11_mayStay_10 rfl (Nat.le_refl _) ⟨rfl, ?_⟩
    exact h1 q1
  · skip
    intro q1 q
    refine pw_iret r_11_mayStay_10 rfl (Nat.le_refl _) ⟨rfl, ?_⟩
    exact h2 q1 q
set_option maxRecDepth 10000 in
theorem sp_X11_worth {l : Launch} {w : Wo} {d : Nat} {G : PH} {P : Option PV → PH → Prop} {p z d0 k : Int} {WT : Int → Int → Int → Int → Int} {SD : Int → Int → Int → Int → Int → Int × Int} {FC : Int → Int → Int → Int} {KC : Int → Int → Int → Int → Int} (hp : ∀ i, 0 ≤ i → i < (gF G 1 0 1) → gD G 30 0 i = some (3, i)) (hsz : 0 ≤ (gF G 1 0 1) ∧ (gF G 1 0 1) ≤ 150) (hf : 0 ≤ (gF G 9 0 0) ∧ (gF G 9 0 0) ≤ 300) (hpr : 0 ≤ (gF G 9 0 2) ∧ (gF G 9 0 2) ≤ 40) (htx : 0 ≤ (gF G 8 0 0) ∧ (gF G 8 0 0) ≤ 20) (hTX : txC G) (hSD : sdC G = SD) (hFC : fcC G = FC) (hKC : kC G = KC) (hnA : ∀ i, 0 ≤ i → i < (gF G 1 0 1) → (gF G 3 (i) 0) = i) (hcA : ∀ i, 0 ≤ i → i < (gF G 1 0 1) → 0 ≤ (gF G 3 (i) 5) ∧ (gF G 3 (i) 5) ≤ 600) (hsA : ∀ i, 0 ≤ i → i < (gF G 1 0 1) → 0 ≤ (gF G 3 (i) 2) ∧ (gF G 3 (i) 2) ≤ 1) (hWT : wtC G = WT) (h1 : ¬ ((0 ≤ p ∧ p < (gF G 1 0 1)) ∧ (0 ≤ z ∧ z ≤ 1) ∧ (0 ≤ d0 ∧ d0 ≤ 600) ∧ 0 ≤ k ∧ k ≤ 600) → P (some (vI (-1))) G) (h2 : ((0 ≤ p ∧ p < (gF G 1 0 1)) ∧ (0 ≤ z ∧ z ≤ 1) ∧ (0 ≤ d0 ∧ d0 ≤ 600) ∧ 0 ≤ k ∧ k ≤ 600) → ∀ q : RQ, P (some (vI (WT p z d0 k))) (rstC G q)) : PW l w M_X11_worth (d + 130) 0 [some (vR 11 (0)), some (vI (p)), some (vI (z)), some (vI (d0)), some (vI (k))] [] G P := by
  refine pw_aload r_11_worth_0 rfl ?_
  refine pw_getR r_11_worth_1 fs_11_3 (by decide) ?_
  refine pw_iload r_11_worth_4 rfl ?_
  refine pw_iload r_11_worth_5 rfl ?_
  refine pw_iload r_11_worth_6 rfl ?_
  refine pw_iload r_11_worth_7 rfl ?_
  refine pw_callV (av := [vI (p), vI (z), vI (d0), vI (k)]) (st := []) (ls0 := [some (vR 8 (0)), some (vI (p)), some (vI (z)), some (vI (d0)), some (vI (k)), none]) r_11_worth_9 rfl rfl rfl (Nat.le_refl _) ?_
  refine sp_X8_tellWorth (by first | assumption | exact hp | omega) (by first | assumption | exact hsz | omega) (by first | assumption | exact hf | omega) (by first | assumption | exact hpr | omega) (by first | assumption | exact htx | omega) (by first | assumption | exact hTX | omega) (by first | assumption | exact hSD | omega) (by first | assumption | exact hFC | omega) (by first | assumption | exact hKC | omega) (by first | assumption | exact hnA | omega) (by first | assumption | exact hcA | omega) (by first | assumption | exact hsA | omega) (by first | assumption | exact hWT | omega) ?_ ?_
  · skip
    intro q1
    refine pw_iret r_11_worth_12 rfl (Nat.le_refl _) ⟨rfl, ?_⟩
    exact h1 q1
  · skip
    intro q1 q
    refine pw_iret r_11_worth_12 rfl (Nat.le_refl _) ⟨rfl, ?_⟩
    exact h2 q1 q
