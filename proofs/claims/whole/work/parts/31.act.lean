/-! acts: what a body gives, and which bodies run -/
abbrev AV : Type := Int × List Int
abbrev TSt : Type := (Int → Int) × Int
def nt24 (s : TSt) (b : Int) : TSt := if s.2 < 24 then (upA s.1 s.2 b, s.2 + 1) else s
def ntM (s : TSt) (b : Int) : TSt := if s.2 < 24 then (upA s.1 s.2 b, s.2 + 1) else (s.1, s.2 + 1)
theorem nt_t {s : TSt} {b : Int} (h : s.2 < 24) : nt24 s b = (upA s.1 s.2 b, s.2 + 1) := if_pos h
theorem nt_f {s : TSt} {b : Int} (h : ¬ s.2 < 24) : nt24 s b = s := if_neg h
theorem ntM_t {s : TSt} {b : Int} (h : s.2 < 24) : ntM s b = (upA s.1 s.2 b, s.2 + 1) := if_pos h
theorem ntM_f {s : TSt} {b : Int} (h : ¬ s.2 < 24) : ntM s b = (s.1, s.2 + 1) := if_neg h
theorem nt_sim : ∀ (L : List Int) (s t : TSt), 0 ≤ t.2 → s.2 = min t.2 24 → (∀ i, 0 ≤ i → i < s.2 → t.1 i = s.1 i) → 0 ≤ (L.foldl ntM t).2 ∧ (L.foldl nt24 s).2 = min (L.foldl ntM t).2 24 ∧ ∀ i, 0 ≤ i → i < (L.foldl nt24 s).2 → (L.foldl ntM t).1 i = (L.foldl nt24 s).1 i
  | [], s, t, h0, h1, h2 => ⟨h0, h1, h2⟩
  | b :: L, s, t, h0, h1, h2 => by
    rw [List.foldl_cons, List.foldl_cons]
    by_cases e : t.2 < 24
    · have e1 : s.2 = t.2 := by omega
      rw [nt_t (by omega), ntM_t e]
      refine nt_sim L _ _ (by show 0 ≤ t.2 + 1; omega) (by show s.2 + 1 = min (t.2 + 1) 24; omega) (fun i i0 i1 => ?_)
      show upA t.1 t.2 b i = upA s.1 s.2 b i
      replace i1 : i < s.2 + 1 := i1
      rw [e1]
      by_cases z : i = t.2
      · rw [z, upA_same, upA_same]
      · rw [upA_ne z, upA_ne z]; exact h2 i i0 (by omega)
    · rw [nt_f (by omega), ntM_f e]
      exact nt_sim L _ _ (by show 0 ≤ t.2 + 1; omega) (by show s.2 = min (t.2 + 1) 24; omega) h2
def go0 (ag x : Int) : AV := (wr (x + ag), [10])
def go1 (ag x : Int) : AV := (wr ((go0 ag x).1 - 1), 20 :: (go0 ag x).2)
def go4 (ag x : Int) : AV := ((go1 ag (wr (x + 3))).1, 50 :: (go1 ag (wr (x + 3))).2)
def go6 (ag x : Int) : AV := (wr ((go1 ag x).1 * 3), 70 :: (go1 ag x).2)
def go7 (ag x : Int) : AV := (wr ((go4 ag x).1 + 5), 81 :: (go4 ag x).2)
def goK (ag k x : Int) : AV := if k = 0 then go0 ag x else if k = 4 then go4 ag x else if k = 6 then go6 ag x else if k = 7 then go7 ag x else go1 ag x
def rk0 (ag kk x : Int) : AV := (wr ((goK ag kk x).1 * 2), 11 :: (goK ag kk x).2)
def rk2 (ag gr kk x : Int) : AV := (wr ((rk0 ag kk x).1 + gr), 30 :: (rk0 ag kk x).2)
def rk5 (ag kk x : Int) : AV := (wr ((goK ag kk x).1 - (rk0 ag kk x).1), 60 :: ((goK ag kk x).2 ++ (rk0 ag kk x).2))
def rk7 (ag kk x : Int) : AV := (pXor (rk0 ag kk x).1 (goK ag kk x).1, 80 :: ((rk0 ag kk x).2 ++ (goK ag kk x).2))
def rkK (ag gr kk k x : Int) : AV := if k = 2 then rk2 ag gr kk x else if k = 5 then rk5 ag kk x else if k = 7 then rk7 ag kk x else rk0 ag kk x
def tl0 (ag gr n kk x : Int) : AV := (pXor (rkK ag gr kk kk x).1 n, 12 :: (rkK ag gr kk kk x).2)
def tl3 (ag gr n kk x : Int) : AV := (wr (-(tl0 ag gr n kk x).1), 40 :: (tl0 ag gr n kk x).2)
def tl4 (ag gr n kk x : Int) : AV := (wr ((tl0 ag gr n kk x).1 + (goK ag kk 1).1), 51 :: ((tl0 ag gr n kk x).2 ++ (goK ag kk 1).2))
def tlK (ag gr n kk k x : Int) : AV := if k = 3 then tl3 ag gr n kk x else if k = 4 then tl4 ag gr n kk x else if k = 7 then tl4 ag gr n kk x else tl0 ag gr n kk x
def evR (ag gr n kk a k x : Int) : AV := if a = 0 then goK ag k x else if a = 1 then rkK ag gr kk k x else tlK ag gr n kk k x
def lvl (k : Int) : Int := if k ≤ 0 then 0 else if k = 1 then 1 else if k = 7 then 3 else 2
theorem lvl_is (k : Int) : (k ≤ 0 ∧ lvl k = 0) ∨ (k = 1 ∧ lvl k = 1) ∨ (k = 7 ∧ lvl k = 3) ∨ (1 < k ∧ k ≠ 7 ∧ lvl k = 2) := by
  unfold lvl
  split
  · omega
  · split
    · omega
    · split <;> omega
/-- all bodies: act, kind, number, the kind above -/
theorem bo_all {a z : Int} (a0 : 0 ≤ a) (a1 : a ≤ 2) (z0 : 0 ≤ z) (z1 : z ≤ 7) : (a = 0 ∧ z = 0 ∧ boF (z * 3 + a) = 10) ∨ (a = 1 ∧ z = 0 ∧ boF (z * 3 + a) = 11) ∨ (a = 2 ∧ z = 0 ∧ boF (z * 3 + a) = 12) ∨ (a = 0 ∧ z = 1 ∧ boF (z * 3 + a) = 20) ∨ (a = 1 ∧ z = 2 ∧ boF (z * 3 + a) = 30) ∨ (a = 2 ∧ z = 3 ∧ boF (z * 3 + a) = 40) ∨ (a = 0 ∧ z = 4 ∧ boF (z * 3 + a) = 50) ∨ (a = 2 ∧ z = 4 ∧ boF (z * 3 + a) = 51) ∨
    (a = 1 ∧ z = 5 ∧ boF (z * 3 + a) = 60) ∨ (a = 0 ∧ z = 6 ∧ boF (z * 3 + a) = 70) ∨ (a = 1 ∧ z = 7 ∧ boF (z * 3 + a) = 80) ∨ (a = 0 ∧ z = 7 ∧ boF (z * 3 + a) = 81) ∨ (boF (z * 3 + a) = 0 ∧ 0 < z ∧ ((a = 0 ∧ (z = 2 ∨ z = 3 ∨ z = 5)) ∨ (a = 1 ∧ (z = 1 ∨ z = 3 ∨ z = 4 ∨ z = 6)) ∨ (a = 2 ∧ (z = 1 ∨ z = 2 ∨ z = 5 ∨ z = 6 ∨ z = 7)))) := by
  rcases (show a = 0 ∨ a = 1 ∨ a = 2 by omega) with e | e | e <;> subst e <;> rcases (show z = 0 ∨ z = 1 ∨ z = 2 ∨ z = 3 ∨ z = 4 ∨ z = 5 ∨ z = 6 ∨ z = 7 by omega) with e | e | e | e | e | e | e | e <;> subst e <;> decide +kernel
/-- a kind without a body of its own does as the one above -/
theorem ev_up {ag gr n kk a z x : Int} (a0 : 0 ≤ a) (a1 : a ≤ 2) (z0 : 0 ≤ z) (z1 : z ≤ 7) (h : boF (z * 3 + a) = 0) : evR ag gr n kk a (abF z) x = evR ag gr n kk a z x := by
  have hb := bo_all a0 a1 z0 z1
  have ha := ab_is z0 (by omega)
  rcases (show (a = 0 ∧ (z = 2 ∨ z = 3 ∨ z = 5)) ∨ (a = 1 ∧ (z = 1 ∨ z = 3 ∨ z = 4 ∨ z = 6)) ∨ (a = 2 ∧ (z = 1 ∨ z = 2 ∨ z = 5 ∨ z = 6 ∨ z = 7)) by omega) with ⟨e, e1⟩ | ⟨e, e1⟩ | ⟨e, e1⟩ <;> subst e
  · rcases e1 with e | e | e <;> subst e <;> rfl
  · rcases e1 with e | e | e | e <;> subst e <;> rfl
  · rcases e1 with e | e | e | e | e <;> subst e <;> rfl
theorem nt_len : ∀ (L : List Int) (s : TSt), (L.foldl ntM s).2 = s.2 + L.length
  | [], s => by show s.2 = s.2 + ((0 : Nat) : Int); omega
  | b :: L, s => by
    rw [List.foldl_cons, nt_len L, List.length_cons]
    by_cases e : s.2 < 24
    · rw [ntM_t e]; show s.2 + 1 + (L.length : Int) = _; omega
    · rw [ntM_f e]; show s.2 + 1 + (L.length : Int) = _; omega
theorem nt_pos : ∀ (L : List Int) (s : TSt), 0 ≤ s.2 → 0 ≤ (L.foldl nt24 s).2
  | [], s, h => h
  | b :: L, s, h => by
    rw [List.foldl_cons]
    refine nt_pos L _ ?_
    by_cases e : s.2 < 24
    · rw [nt_t e]; show 0 ≤ s.2 + 1; omega
    · rw [nt_f e]; exact h
theorem goK_len (ag k x : Int) : (goK ag k x).2.length ≤ 4 := by
  unfold goK
  split
  · show 1 ≤ 4; decide
  · split
    · show 3 ≤ 4; decide
    · split
      · show 3 ≤ 4; decide
      · split
        · show 4 ≤ 4; decide
        · show 2 ≤ 4; decide
theorem rk0_len (ag kk x : Int) : (rk0 ag kk x).2.length ≤ 5 := by
  have := goK_len ag kk x
  show (11 :: (goK ag kk x).2).length ≤ 5
  rw [List.length_cons]
  omega
theorem rkK_len (ag gr kk k x : Int) : (rkK ag gr kk k x).2.length ≤ 10 := by
  have h1 := goK_len ag kk x
  have h2 := rk0_len ag kk x
  unfold rkK
  split
  · show (30 :: (rk0 ag kk x).2).length ≤ 10; rw [List.length_cons]; omega
  · split
    · show (60 :: ((goK ag kk x).2 ++ (rk0 ag kk x).2)).length ≤ 10; rw [List.length_cons, List.length_append]; omega
    · split
      · show (80 :: ((rk0 ag kk x).2 ++ (goK ag kk x).2)).length ≤ 10; rw [List.length_cons, List.length_append]; omega
      · omega
theorem tl0_len (ag gr n kk x : Int) : (tl0 ag gr n kk x).2.length ≤ 11 := by
  have := rkK_len ag gr kk kk x
  show (12 :: (rkK ag gr kk kk x).2).length ≤ 11
  rw [List.length_cons]
  omega
theorem nt_pos2 {L : List Int} {s : TSt} {A : Int → Int} {c : Int} (h : (A, c) = L.foldl nt24 s) (h0 : 0 ≤ s.2) : 0 ≤ c := by
  have := nt_pos L s h0
  rw [← h] at this
  exact this
theorem nt_cnt {L : List Int} {s : TSt} {A : Int → Int} {c m : Int} (hl : (L.length : Int) ≤ m) (h : (A, c) = L.foldl ntM s) : s.2 ≤ c ∧ c ≤ s.2 + m := by
  have h2 : c = s.2 + L.length := (congrArg Prod.snd h).trans (nt_len L s)
  omega
theorem tlK_len (ag gr n kk k x : Int) : (tlK ag gr n kk k x).2.length ≤ 16 := by
  have h0 := tl0_len ag gr n kk x
  have h1 := goK_len ag kk 1
  have h4 : (tl4 ag gr n kk x).2.length ≤ 16 := by
    show (51 :: ((tl0 ag gr n kk x).2 ++ (goK ag kk 1).2)).length ≤ 16
    rw [List.length_cons, List.length_append]; omega
  unfold tlK
  split
  · show (40 :: (tl0 ag gr n kk x).2).length ≤ 16; rw [List.length_cons]; omega
  · split
    · exact h4
    · split
      · exact h4
      · omega
theorem go_cnt {s : TSt} {A : Int → Int} {c ag k x : Int} (h : (A, c) = (goK ag k x).2.foldl ntM s) : s.2 ≤ c ∧ c ≤ s.2 + 4 := nt_cnt (by have := goK_len ag k x; omega) h
theorem rk_cnt {s : TSt} {A : Int → Int} {c ag gr kk k x : Int} (h : (A, c) = (rkK ag gr kk k x).2.foldl ntM s) : s.2 ≤ c ∧ c ≤ s.2 + 10 := nt_cnt (by have := rkK_len ag gr kk k x; omega) h
theorem tl_cnt {s : TSt} {A : Int → Int} {c ag gr n kk k x : Int} (h : (A, c) = (tlK ag gr n kk k x).2.foldl ntM s) : s.2 ≤ c ∧ c ≤ s.2 + 16 := nt_cnt (by have := tlK_len ag gr n kk k x; omega) h
theorem ev_10 (ag gr n kk x : Int) : evR ag gr n kk 0 0 x = (wr (x + ag), [10]) := rfl
theorem ev_11 (ag gr n kk x : Int) : evR ag gr n kk 1 0 x = (wr ((evR ag gr n kk 0 kk x).1 * 2), 11 :: (evR ag gr n kk 0 kk x).2) := rfl
theorem ev_12 (ag gr n kk x : Int) : evR ag gr n kk 2 0 x = (pXor (evR ag gr n kk 1 kk x).1 n, 12 :: (evR ag gr n kk 1 kk x).2) := rfl
theorem ev_20 (ag gr n kk x : Int) : evR ag gr n kk 0 1 x = (wr ((evR ag gr n kk 0 0 x).1 - 1), 20 :: (evR ag gr n kk 0 0 x).2) := rfl
theorem ev_30 (ag gr n kk x : Int) : evR ag gr n kk 1 2 x = (wr ((evR ag gr n kk 1 1 x).1 + gr), 30 :: (evR ag gr n kk 1 1 x).2) := rfl
theorem ev_40 (ag gr n kk x : Int) : evR ag gr n kk 2 3 x = (wr (-(evR ag gr n kk 2 1 x).1), 40 :: (evR ag gr n kk 2 1 x).2) := rfl
theorem ev_50 (ag gr n kk x : Int) : evR ag gr n kk 0 4 x = ((evR ag gr n kk 0 1 (wr (x + 3))).1, 50 :: (evR ag gr n kk 0 1 (wr (x + 3))).2) := rfl
theorem ev_51 (ag gr n kk x : Int) : evR ag gr n kk 2 4 x = (wr ((evR ag gr n kk 2 1 x).1 + (evR ag gr n kk 0 kk 1).1), 51 :: ((evR ag gr n kk 2 1 x).2 ++ (evR ag gr n kk 0 kk 1).2)) := rfl
theorem ev_60 (ag gr n kk x : Int) : evR ag gr n kk 1 5 x = (wr ((evR ag gr n kk 0 kk x).1 - (evR ag gr n kk 1 1 x).1), 60 :: ((evR ag gr n kk 0 kk x).2 ++ (evR ag gr n kk 1 1 x).2)) := rfl
theorem ev_70 (ag gr n kk x : Int) : evR ag gr n kk 0 6 x = (wr ((evR ag gr n kk 0 1 x).1 * 3), 70 :: (evR ag gr n kk 0 1 x).2) := rfl
theorem ev_80 (ag gr n kk x : Int) : evR ag gr n kk 1 7 x = (pXor (evR ag gr n kk 1 4 x).1 (evR ag gr n kk 0 kk x).1, 80 :: ((evR ag gr n kk 1 4 x).2 ++ (evR ag gr n kk 0 kk x).2)) := rfl
theorem ev_81 (ag gr n kk x : Int) : evR ag gr n kk 0 7 x = (wr ((evR ag gr n kk 0 4 x).1 + 5), 81 :: (evR ag gr n kk 0 4 x).2) := rfl
theorem tpt_abs (G : PH) (A A1 : Int → Int) (c c1 : Int) : sF (uA (sF (uA G 40 0 (A)) 1 0 17 (c)) 40 0 (A1)) 1 0 17 (c1) = sF (uA G 40 0 (A1)) 1 0 17 (c1) := by
  rw [uA_sF, uA_uA, sF_sF]
theorem tpm_abs (G : PH) (A A1 : Int → Int) (c c1 : Int) : sF (uA (sF (uA G 269 0 (A)) 12 0 104 (c)) 269 0 (A1)) 12 0 104 (c1) = sF (uA G 269 0 (A1)) 12 0 104 (c1) := by
  rw [uA_sF, uA_uA, sF_sF]

theorem wd_f3_58 : Cond.fieldLink "NameRolls$Person" 58 "NameRolls$Person" "BODIES" "[I" ∈ UW := UW6_at 228 (by decide +kernel) rfl
theorem wd_m3_61 : Cond.methodLink "NameRolls$Person" 61 M_X1_noteBody.1 ∈ UW := UW6_at 232 (by decide +kernel) rfl
theorem wd_s1_noteBody : Cond.selects M_X1_noteBody.1.cls M_X1_noteBody.1 M_X1_noteBody.1 ∈ UW := UW6_at 234 (by decide +kernel) rfl
theorem wd_m3_67 : Cond.methodLink "NameRolls$Person" 67 M_X3_runBody.1 ∈ UW := UW6_at 236 (by decide +kernel) rfl
theorem wd_s3_runBody : Cond.selects M_X3_runBody.1.cls M_X3_runBody.1 M_X3_runBody.1 ∈ UW := UWp_at 57 (by decide +kernel) rfl
theorem wd_f3_21 : Cond.fieldLink "NameRolls$Person" 21 "NameRolls$Person" "age" "I" ∈ UW := UW3_at 159 (by decide +kernel) rfl
theorem wd_m3_53 : Cond.methodLink "NameRolls$Person" 53 M_X3_run.1 ∈ UW := UW6_at 224 (by decide +kernel) rfl
theorem wd_s3_run : Cond.selects M_X3_run.1.cls M_X3_run.1 M_X3_run.1 ∈ UW := UWp_at 56 (by decide +kernel) rfl
theorem wd_f3_9 : Cond.fieldLink "NameRolls$Person" 9 "NameRolls$Person" "number" "I" ∈ UW := UW3_at 147 (by decide +kernel) rfl
theorem wd_f3_70 : Cond.fieldLink "NameRolls$Person" 70 "NameRolls$Person" "grade" "I" ∈ UW := UW3_at 170 (by decide +kernel) rfl
theorem wd_m1_197 : Cond.methodLink "NameRolls$Crowd" 197 M_X3_perform.1 ∈ UW := UW6_at 219 (by decide +kernel) rfl
theorem wd_s3_perform : Cond.selects M_X3_perform.1.cls M_X3_perform.1 M_X3_perform.1 ∈ UW := UW6_at 221 (by decide +kernel) rfl
theorem wd_m12_519 : Cond.methodLink "NameRollsModel" 519 M_X12_begins.1 ∈ UW := UW10_at 89 (by decide +kernel) rfl
theorem wd_s12_begins : Cond.selects M_X12_begins.1.cls M_X12_begins.1 M_X12_begins.1 ∈ UW := UWp_at 104 (by decide +kernel) rfl
theorem wd_f12_522 : Cond.fieldLink "NameRollsModel" 522 "NameRollsModel" "runs" "I" ∈ UW := UW7_at 173 (by decide +kernel) rfl
theorem wd_m12_528 : Cond.methodLink "NameRollsModel" 528 M_X12_goesBy.1 ∈ UW := UW10_at 85 (by decide +kernel) rfl
theorem wd_s12_goesBy : Cond.selects M_X12_goesBy.1.cls M_X12_goesBy.1 M_X12_goesBy.1 ∈ UW := UWp_at 103 (by decide +kernel) rfl
theorem wd_m12_531 : Cond.methodLink "NameRollsModel" 531 M_X12_ranksBy.1 ∈ UW := UW10_at 96 (by decide +kernel) rfl
theorem wd_s12_ranksBy : Cond.selects M_X12_ranksBy.1.cls M_X12_ranksBy.1 M_X12_ranksBy.1 ∈ UW := UWp_at 105 (by decide +kernel) rfl
theorem wd_m12_534 : Cond.methodLink "NameRollsModel" 534 M_X12_tellsBy.1 ∈ UW := UW10_at 100 (by decide +kernel) rfl
theorem wd_s12_tellsBy : Cond.selects M_X12_tellsBy.1.cls M_X12_tellsBy.1 M_X12_tellsBy.1 ∈ UW := UWp_at 106 (by decide +kernel) rfl
theorem wd_m11_231 : Cond.methodLink "NameRolls" 231 M_X1_actOf.1 ∈ UW := UW6_at 215 (by decide +kernel) rfl
theorem wd_s1_actOf : Cond.selects M_X1_actOf.1.cls M_X1_actOf.1 M_X1_actOf.1 ∈ UW := UW6_at 217 (by decide +kernel) rfl
theorem r_1_noteBody_0 : RA M_X1_noteBody 0 0 1 := Or.inl ⟨0, by decide +kernel, rfl, rfl⟩
theorem r_1_noteBody_1 : RG M_X1_noteBody 1 1 17 4 := ⟨194, _, by decide +kernel, rfl, by decide, wd_f1_194, rfl, rfl⟩
theorem r_1_noteBody_4 : RC M_X1_noteBody 4 24 6 := ⟨⟨by decide, by decide⟩, Or.inr (Or.inl ⟨by decide +kernel, by decide, rfl⟩)⟩
theorem r_1_noteBody_6 : RB M_X1_noteBody 6 (.if_icmp .ge) 29 9 := ⟨23, by decide +kernel, rfl, rfl⟩
theorem r_1_noteBody_29 : RW M_X1_noteBody 29 .return_ 30 1 := ⟨by decide +kernel, rfl⟩
theorem r_1_noteBody_9 : RA M_X1_noteBody 9 0 10 := Or.inl ⟨0, by decide +kernel, rfl, rfl⟩
theorem r_1_noteBody_10 : RG M_X1_noteBody 10 1 16 13 := ⟨45, _, by decide +kernel, rfl, by decide, wd_f1_45, rfl, rfl⟩
theorem r_1_noteBody_13 : RA M_X1_noteBody 13 0 14 := Or.inl ⟨0, by decide +kernel, rfl, rfl⟩
theorem r_1_noteBody_14 : RG M_X1_noteBody 14 1 17 17 := ⟨194, _, by decide +kernel, rfl, by decide, wd_f1_194, rfl, rfl⟩
theorem r_1_noteBody_17 : RL M_X1_noteBody 17 1 18 := Or.inl ⟨1, by decide +kernel, rfl, rfl⟩
theorem r_1_noteBody_18 : RW M_X1_noteBody 18 .iastore 19 1 := ⟨by decide +kernel, rfl⟩
theorem r_1_noteBody_19 : RA M_X1_noteBody 19 0 20 := Or.inl ⟨0, by decide +kernel, rfl, rfl⟩
theorem r_1_noteBody_20 : RW M_X1_noteBody 20 .dup 21 1 := ⟨by decide +kernel, rfl⟩
theorem r_1_noteBody_21 : RG M_X1_noteBody 21 1 17 24 := ⟨194, _, by decide +kernel, rfl, by decide, wd_f1_194, rfl, rfl⟩
theorem r_1_noteBody_24 : RC M_X1_noteBody 24 1 25 := ⟨⟨by decide, by decide⟩, Or.inl ⟨by decide +kernel, rfl⟩⟩
theorem r_1_noteBody_25 : RW M_X1_noteBody 25 .iadd 26 1 := ⟨by decide +kernel, rfl⟩
theorem r_1_noteBody_26 : RP M_X1_noteBody 26 1 17 29 := ⟨194, _, by decide +kernel, rfl, by decide, wd_f1_194, rfl, Or.inl rfl, rfl⟩
theorem r_12_begins_0 : RA M_X12_begins 0 0 1 := Or.inl ⟨0, by decide +kernel, rfl, rfl⟩
theorem r_12_begins_1 : RG M_X12_begins 1 12 104 4 := ⟨516, _, by decide +kernel, rfl, by decide, wd_f12_516, rfl, rfl⟩
theorem r_12_begins_4 : RC M_X12_begins 4 24 6 := ⟨⟨by decide, by decide⟩, Or.inr (Or.inl ⟨by decide +kernel, by decide, rfl⟩)⟩
theorem r_12_begins_6 : RB M_X12_begins 6 (.if_icmp .ge) 19 9 := ⟨13, by decide +kernel, rfl, rfl⟩
theorem r_12_begins_19 : RA M_X12_begins 19 0 20 := Or.inl ⟨0, by decide +kernel, rfl, rfl⟩
theorem r_12_begins_20 : RW M_X12_begins 20 .dup 21 1 := ⟨by decide +kernel, rfl⟩
theorem r_12_begins_21 : RG M_X12_begins 21 12 104 24 := ⟨516, _, by decide +kernel, rfl, by decide, wd_f12_516, rfl, rfl⟩
theorem r_12_begins_24 : RC M_X12_begins 24 1 25 := ⟨⟨by decide, by decide⟩, Or.inl ⟨by decide +kernel, rfl⟩⟩
theorem r_12_begins_25 : RW M_X12_begins 25 .iadd 26 1 := ⟨by decide +kernel, rfl⟩
theorem r_12_begins_26 : RP M_X12_begins 26 12 104 29 := ⟨516, _, by decide +kernel, rfl, by decide, wd_f12_516, rfl, Or.inl rfl, rfl⟩
theorem r_12_begins_29 : RW M_X12_begins 29 .return_ 30 1 := ⟨by decide +kernel, rfl⟩
theorem r_12_begins_9 : RA M_X12_begins 9 0 10 := Or.inl ⟨0, by decide +kernel, rfl, rfl⟩
theorem r_12_begins_10 : RG M_X12_begins 10 12 103 13 := ⟨228, _, by decide +kernel, rfl, by decide, wd_f12_228, rfl, rfl⟩
theorem r_12_begins_13 : RA M_X12_begins 13 0 14 := Or.inl ⟨0, by decide +kernel, rfl, rfl⟩
theorem r_12_begins_14 : RG M_X12_begins 14 12 104 17 := ⟨516, _, by decide +kernel, rfl, by decide, wd_f12_516, rfl, rfl⟩
theorem r_12_begins_17 : RL M_X12_begins 17 1 18 := Or.inl ⟨1, by decide +kernel, rfl, rfl⟩
theorem r_12_begins_18 : RW M_X12_begins 18 .iastore 19 1 := ⟨by decide +kernel, rfl⟩
theorem r_3_run_52 : RL M_X3_run 52 4 54 := Or.inr ⟨by decide +kernel, rfl⟩
theorem r_3_run_54 : RC M_X3_run 54 20 56 := ⟨⟨by decide, by decide⟩, Or.inr (Or.inl ⟨by decide +kernel, by decide, rfl⟩)⟩
theorem r_3_run_56 : RB M_X3_run 56 (.if_icmp .gt) 71 59 := ⟨15, by decide +kernel, rfl, rfl⟩
theorem r_3_run_59 : RL M_X3_run 59 6 61 := Or.inr ⟨by decide +kernel, rfl⟩
theorem r_3_run_61 : RB M_X3_run 61 (.ifCond .lt) 71 64 := ⟨10, by decide +kernel, rfl, rfl⟩
theorem r_3_run_64 : RL M_X3_run 64 6 66 := Or.inr ⟨by decide +kernel, rfl⟩
theorem r_3_run_66 : RC M_X3_run 66 8 68 := ⟨⟨by decide, by decide⟩, Or.inr (Or.inl ⟨by decide +kernel, by decide, rfl⟩)⟩
theorem r_3_run_68 : RB M_X3_run 68 (.if_icmp .lt) 73 71 := ⟨5, by decide +kernel, rfl, rfl⟩
theorem r_3_run_73 : RGS M_X3_run 73 "BODIES" 76 := ⟨58, by decide +kernel, wd_f3_58, rfl⟩
theorem r_3_run_76 : RL M_X3_run 76 6 78 := Or.inr ⟨by decide +kernel, rfl⟩
theorem r_3_run_78 : RC M_X3_run 78 3 79 := ⟨⟨by decide, by decide⟩, Or.inl ⟨by decide +kernel, rfl⟩⟩
theorem r_3_run_79 : RW M_X3_run 79 .imul 80 1 := ⟨by decide +kernel, rfl⟩
theorem r_3_run_80 : RL M_X3_run 80 1 81 := Or.inl ⟨1, by decide +kernel, rfl, rfl⟩
theorem r_3_run_81 : RW M_X3_run 81 .iadd 82 1 := ⟨by decide +kernel, rfl⟩
theorem r_3_run_82 : RW M_X3_run 82 .iaload 83 1 := ⟨by decide +kernel, rfl⟩
theorem r_3_run_83 : RS M_X3_run 83 7 85 := ⟨by decide, Or.inr ⟨by decide +kernel, rfl⟩⟩
theorem r_3_run_85 : RA M_X3_run 85 5 87 := Or.inr ⟨by decide +kernel, rfl⟩
theorem r_3_run_87 : RL M_X3_run 87 7 89 := Or.inr ⟨by decide +kernel, rfl⟩
theorem r_3_run_89 : RKv M_X3_run M_X1_noteBody 89 1 1 92 := ⟨61, by decide +kernel, wd_m3_61, ok_M_X1_noteBody, wd_s1_noteBody, rfl⟩
theorem r_3_run_92 : RA M_X3_run 92 0 93 := Or.inl ⟨0, by decide +kernel, rfl, rfl⟩
theorem r_3_run_93 : RL M_X3_run 93 7 95 := Or.inr ⟨by decide +kernel, rfl⟩
theorem r_3_run_95 : RGS M_X3_run 95 "ABOVE" 98 := ⟨45, by decide +kernel, wd_f3_45, rfl⟩
theorem r_3_run_98 : RL M_X3_run 98 6 100 := Or.inr ⟨by decide +kernel, rfl⟩
theorem r_3_run_100 : RW M_X3_run 100 .iaload 101 1 := ⟨by decide +kernel, rfl⟩
theorem r_3_run_101 : RL M_X3_run 101 3 102 := Or.inl ⟨3, by decide +kernel, rfl, rfl⟩
theorem r_3_run_102 : RL M_X3_run 102 4 104 := Or.inr ⟨by decide +kernel, rfl⟩
theorem r_3_run_104 : RC M_X3_run 104 1 105 := ⟨⟨by decide, by decide⟩, Or.inl ⟨by decide +kernel, rfl⟩⟩
theorem r_3_run_105 : RW M_X3_run 105 .iadd 106 1 := ⟨by decide +kernel, rfl⟩
theorem r_3_run_106 : RA M_X3_run 106 5 108 := Or.inr ⟨by decide +kernel, rfl⟩
theorem r_3_run_108 : RKv M_X3_run M_X3_runBody 108 5 3 111 := ⟨67, by decide +kernel, wd_m3_67, ok_M_X3_runBody, wd_s3_runBody, rfl⟩
theorem r_3_runBody_0 : RL M_X3_runBody 0 1 1 := Or.inl ⟨1, by decide +kernel, rfl, rfl⟩
theorem r_3_runBody_1 : RLS M_X3_runBody 1 [(10, 108), (11, 115), (12, 132), (20, 152), (30, 166), (40, 183), (50, 196), (51, 210), (60, 237), (70, 264), (80, 278), (81, 305)] 319 := ⟨318, #[(10, 107), (11, 114), (12, 131), (20, 151), (30, 165), (40, 182), (50, 195), (51, 209), (60, 236), (70, 263), (80, 277), (81, 304)], 107, by decide +kernel, by decide, rfl, by decide⟩
theorem r_3_runBody_108 : RL M_X3_runBody 108 3 109 := Or.inl ⟨3, by decide +kernel, rfl, rfl⟩
theorem r_3_runBody_109 : RA M_X3_runBody 109 0 110 := Or.inl ⟨0, by decide +kernel, rfl, rfl⟩
theorem r_3_runBody_110 : RG M_X3_runBody 110 3 3 113 := ⟨21, _, by decide +kernel, rfl, by decide, wd_f3_21, rfl, rfl⟩
theorem r_3_runBody_113 : RW M_X3_runBody 113 .iadd 114 1 := ⟨by decide +kernel, rfl⟩
theorem r_3_runBody_114 : RW M_X3_runBody 114 .ireturn 115 1 := ⟨by decide +kernel, rfl⟩
theorem r_3_run_111 : RW M_X3_run 111 .ireturn 112 1 := ⟨by decide +kernel, rfl⟩
theorem r_3_runBody_115 : RA M_X3_runBody 115 0 116 := Or.inl ⟨0, by decide +kernel, rfl, rfl⟩
theorem r_3_runBody_116 : RC M_X3_runBody 116 0 117 := ⟨⟨by decide, by decide⟩, Or.inl ⟨by decide +kernel, rfl⟩⟩
theorem r_3_runBody_117 : RA M_X3_runBody 117 0 118 := Or.inl ⟨0, by decide +kernel, rfl, rfl⟩
theorem r_3_runBody_118 : RG M_X3_runBody 118 3 1 121 := ⟨15, _, by decide +kernel, rfl, by decide, wd_f3_15, rfl, rfl⟩
theorem r_3_runBody_121 : RL M_X3_runBody 121 3 122 := Or.inl ⟨3, by decide +kernel, rfl, rfl⟩
theorem r_3_runBody_122 : RL M_X3_runBody 122 4 124 := Or.inr ⟨by decide +kernel, rfl⟩
theorem r_3_runBody_124 : RA M_X3_runBody 124 5 126 := Or.inr ⟨by decide +kernel, rfl⟩
theorem r_3_runBody_126 : RKv M_X3_runBody M_X3_run 126 5 3 129 := ⟨53, by decide +kernel, wd_m3_53, ok_M_X3_run, wd_s3_run, rfl⟩
theorem r_3_runBody_129 : RC M_X3_runBody 129 2 130 := ⟨⟨by decide, by decide⟩, Or.inl ⟨by decide +kernel, rfl⟩⟩
theorem r_3_runBody_130 : RW M_X3_runBody 130 .imul 131 1 := ⟨by decide +kernel, rfl⟩
theorem r_3_runBody_131 : RW M_X3_runBody 131 .ireturn 132 1 := ⟨by decide +kernel, rfl⟩
theorem r_3_runBody_132 : RA M_X3_runBody 132 0 133 := Or.inl ⟨0, by decide +kernel, rfl, rfl⟩
theorem r_3_runBody_133 : RC M_X3_runBody 133 1 134 := ⟨⟨by decide, by decide⟩, Or.inl ⟨by decide +kernel, rfl⟩⟩
theorem r_3_runBody_134 : RA M_X3_runBody 134 0 135 := Or.inl ⟨0, by decide +kernel, rfl, rfl⟩
theorem r_3_runBody_135 : RG M_X3_runBody 135 3 1 138 := ⟨15, _, by decide +kernel, rfl, by decide, wd_f3_15, rfl, rfl⟩
theorem r_3_runBody_138 : RL M_X3_runBody 138 3 139 := Or.inl ⟨3, by decide +kernel, rfl, rfl⟩
theorem r_3_runBody_139 : RL M_X3_runBody 139 4 141 := Or.inr ⟨by decide +kernel, rfl⟩
theorem r_3_runBody_141 : RA M_X3_runBody 141 5 143 := Or.inr ⟨by decide +kernel, rfl⟩
theorem r_3_runBody_143 : RKv M_X3_runBody M_X3_run 143 5 3 146 := ⟨53, by decide +kernel, wd_m3_53, ok_M_X3_run, wd_s3_run, rfl⟩
theorem r_3_runBody_146 : RA M_X3_runBody 146 0 147 := Or.inl ⟨0, by decide +kernel, rfl, rfl⟩
theorem r_3_runBody_147 : RG M_X3_runBody 147 3 0 150 := ⟨9, _, by decide +kernel, rfl, by decide, wd_f3_9, rfl, rfl⟩
theorem r_3_runBody_150 : RW M_X3_runBody 150 .ixor 151 1 := ⟨by decide +kernel, rfl⟩
theorem r_3_runBody_151 : RW M_X3_runBody 151 .ireturn 152 1 := ⟨by decide +kernel, rfl⟩
theorem r_3_runBody_152 : RA M_X3_runBody 152 0 153 := Or.inl ⟨0, by decide +kernel, rfl, rfl⟩
theorem r_3_runBody_153 : RC M_X3_runBody 153 0 154 := ⟨⟨by decide, by decide⟩, Or.inl ⟨by decide +kernel, rfl⟩⟩
theorem r_3_runBody_154 : RL M_X3_runBody 154 2 155 := Or.inl ⟨2, by decide +kernel, rfl, rfl⟩
theorem r_3_runBody_155 : RL M_X3_runBody 155 3 156 := Or.inl ⟨3, by decide +kernel, rfl, rfl⟩
theorem r_3_runBody_156 : RL M_X3_runBody 156 4 158 := Or.inr ⟨by decide +kernel, rfl⟩
theorem r_3_runBody_158 : RA M_X3_runBody 158 5 160 := Or.inr ⟨by decide +kernel, rfl⟩
theorem r_3_runBody_160 : RKv M_X3_runBody M_X3_run 160 5 3 163 := ⟨53, by decide +kernel, wd_m3_53, ok_M_X3_run, wd_s3_run, rfl⟩
theorem r_3_runBody_163 : RC M_X3_runBody 163 1 164 := ⟨⟨by decide, by decide⟩, Or.inl ⟨by decide +kernel, rfl⟩⟩
theorem r_3_runBody_164 : RW M_X3_runBody 164 .isub 165 1 := ⟨by decide +kernel, rfl⟩
theorem r_3_runBody_165 : RW M_X3_runBody 165 .ireturn 166 1 := ⟨by decide +kernel, rfl⟩
theorem r_3_runBody_166 : RA M_X3_runBody 166 0 167 := Or.inl ⟨0, by decide +kernel, rfl, rfl⟩
theorem r_3_runBody_167 : RC M_X3_runBody 167 1 168 := ⟨⟨by decide, by decide⟩, Or.inl ⟨by decide +kernel, rfl⟩⟩
theorem r_3_runBody_168 : RL M_X3_runBody 168 2 169 := Or.inl ⟨2, by decide +kernel, rfl, rfl⟩
theorem r_3_runBody_169 : RL M_X3_runBody 169 3 170 := Or.inl ⟨3, by decide +kernel, rfl, rfl⟩
theorem r_3_runBody_170 : RL M_X3_runBody 170 4 172 := Or.inr ⟨by decide +kernel, rfl⟩
theorem r_3_runBody_172 : RA M_X3_runBody 172 5 174 := Or.inr ⟨by decide +kernel, rfl⟩
theorem r_3_runBody_174 : RKv M_X3_runBody M_X3_run 174 5 3 177 := ⟨53, by decide +kernel, wd_m3_53, ok_M_X3_run, wd_s3_run, rfl⟩
theorem r_3_runBody_177 : RA M_X3_runBody 177 0 178 := Or.inl ⟨0, by decide +kernel, rfl, rfl⟩
theorem r_3_runBody_178 : RG M_X3_runBody 178 3 6 181 := ⟨70, _, by decide +kernel, rfl, by decide, wd_f3_70, rfl, rfl⟩
theorem r_3_runBody_181 : RW M_X3_runBody 181 .iadd 182 1 := ⟨by decide +kernel, rfl⟩
theorem r_3_runBody_182 : RW M_X3_runBody 182 .ireturn 183 1 := ⟨by decide +kernel, rfl⟩
theorem r_3_runBody_183 : RA M_X3_runBody 183 0 184 := Or.inl ⟨0, by decide +kernel, rfl, rfl⟩
theorem r_3_runBody_184 : RC M_X3_runBody 184 2 185 := ⟨⟨by decide, by decide⟩, Or.inl ⟨by decide +kernel, rfl⟩⟩
theorem r_3_runBody_185 : RL M_X3_runBody 185 2 186 := Or.inl ⟨2, by decide +kernel, rfl, rfl⟩
theorem r_3_runBody_186 : RL M_X3_runBody 186 3 187 := Or.inl ⟨3, by decide +kernel, rfl, rfl⟩
theorem r_3_runBody_187 : RL M_X3_runBody 187 4 189 := Or.inr ⟨by decide +kernel, rfl⟩
theorem r_3_runBody_189 : RA M_X3_runBody 189 5 191 := Or.inr ⟨by decide +kernel, rfl⟩
theorem r_3_runBody_191 : RKv M_X3_runBody M_X3_run 191 5 3 194 := ⟨53, by decide +kernel, wd_m3_53, ok_M_X3_run, wd_s3_run, rfl⟩
theorem r_3_runBody_194 : RW M_X3_runBody 194 .ineg 195 1 := ⟨by decide +kernel, rfl⟩
theorem r_3_runBody_195 : RW M_X3_runBody 195 .ireturn 196 1 := ⟨by decide +kernel, rfl⟩
theorem r_3_runBody_196 : RA M_X3_runBody 196 0 197 := Or.inl ⟨0, by decide +kernel, rfl, rfl⟩
theorem r_3_runBody_197 : RC M_X3_runBody 197 0 198 := ⟨⟨by decide, by decide⟩, Or.inl ⟨by decide +kernel, rfl⟩⟩
theorem r_3_runBody_198 : RL M_X3_runBody 198 2 199 := Or.inl ⟨2, by decide +kernel, rfl, rfl⟩
theorem r_3_runBody_199 : RL M_X3_runBody 199 3 200 := Or.inl ⟨3, by decide +kernel, rfl, rfl⟩
theorem r_3_runBody_200 : RC M_X3_runBody 200 3 201 := ⟨⟨by decide, by decide⟩, Or.inl ⟨by decide +kernel, rfl⟩⟩
theorem r_3_runBody_201 : RW M_X3_runBody 201 .iadd 202 1 := ⟨by decide +kernel, rfl⟩
theorem r_3_runBody_202 : RL M_X3_runBody 202 4 204 := Or.inr ⟨by decide +kernel, rfl⟩
theorem r_3_runBody_204 : RA M_X3_runBody 204 5 206 := Or.inr ⟨by decide +kernel, rfl⟩
theorem r_3_runBody_206 : RKv M_X3_runBody M_X3_run 206 5 3 209 := ⟨53, by decide +kernel, wd_m3_53, ok_M_X3_run, wd_s3_run, rfl⟩
theorem r_3_runBody_209 : RW M_X3_runBody 209 .ireturn 210 1 := ⟨by decide +kernel, rfl⟩
theorem r_3_runBody_210 : RA M_X3_runBody 210 0 211 := Or.inl ⟨0, by decide +kernel, rfl, rfl⟩
theorem r_3_runBody_211 : RC M_X3_runBody 211 2 212 := ⟨⟨by decide, by decide⟩, Or.inl ⟨by decide +kernel, rfl⟩⟩
theorem r_3_runBody_212 : RL M_X3_runBody 212 2 213 := Or.inl ⟨2, by decide +kernel, rfl, rfl⟩
theorem r_3_runBody_213 : RL M_X3_runBody 213 3 214 := Or.inl ⟨3, by decide +kernel, rfl, rfl⟩
theorem r_3_runBody_214 : RL M_X3_runBody 214 4 216 := Or.inr ⟨by decide +kernel, rfl⟩
theorem r_3_runBody_216 : RA M_X3_runBody 216 5 218 := Or.inr ⟨by decide +kernel, rfl⟩
theorem r_3_runBody_218 : RKv M_X3_runBody M_X3_run 218 5 3 221 := ⟨53, by decide +kernel, wd_m3_53, ok_M_X3_run, wd_s3_run, rfl⟩
theorem r_3_runBody_221 : RA M_X3_runBody 221 0 222 := Or.inl ⟨0, by decide +kernel, rfl, rfl⟩
theorem r_3_runBody_222 : RC M_X3_runBody 222 0 223 := ⟨⟨by decide, by decide⟩, Or.inl ⟨by decide +kernel, rfl⟩⟩
theorem r_3_runBody_223 : RA M_X3_runBody 223 0 224 := Or.inl ⟨0, by decide +kernel, rfl, rfl⟩
theorem r_3_runBody_224 : RG M_X3_runBody 224 3 1 227 := ⟨15, _, by decide +kernel, rfl, by decide, wd_f3_15, rfl, rfl⟩
theorem r_3_runBody_227 : RC M_X3_runBody 227 1 228 := ⟨⟨by decide, by decide⟩, Or.inl ⟨by decide +kernel, rfl⟩⟩
theorem r_3_runBody_228 : RL M_X3_runBody 228 4 230 := Or.inr ⟨by decide +kernel, rfl⟩
theorem r_3_runBody_230 : RA M_X3_runBody 230 5 232 := Or.inr ⟨by decide +kernel, rfl⟩
theorem r_3_runBody_232 : RKv M_X3_runBody M_X3_run 232 5 3 235 := ⟨53, by decide +kernel, wd_m3_53, ok_M_X3_run, wd_s3_run, rfl⟩
theorem r_3_runBody_235 : RW M_X3_runBody 235 .iadd 236 1 := ⟨by decide +kernel, rfl⟩
theorem r_3_runBody_236 : RW M_X3_runBody 236 .ireturn 237 1 := ⟨by decide +kernel, rfl⟩
theorem r_3_runBody_237 : RA M_X3_runBody 237 0 238 := Or.inl ⟨0, by decide +kernel, rfl, rfl⟩
theorem r_3_runBody_238 : RC M_X3_runBody 238 0 239 := ⟨⟨by decide, by decide⟩, Or.inl ⟨by decide +kernel, rfl⟩⟩
theorem r_3_runBody_239 : RA M_X3_runBody 239 0 240 := Or.inl ⟨0, by decide +kernel, rfl, rfl⟩
theorem r_3_runBody_240 : RG M_X3_runBody 240 3 1 243 := ⟨15, _, by decide +kernel, rfl, by decide, wd_f3_15, rfl, rfl⟩
theorem r_3_runBody_243 : RL M_X3_runBody 243 3 244 := Or.inl ⟨3, by decide +kernel, rfl, rfl⟩
theorem r_3_runBody_244 : RL M_X3_runBody 244 4 246 := Or.inr ⟨by decide +kernel, rfl⟩
theorem r_3_runBody_246 : RA M_X3_runBody 246 5 248 := Or.inr ⟨by decide +kernel, rfl⟩
theorem r_3_runBody_248 : RKv M_X3_runBody M_X3_run 248 5 3 251 := ⟨53, by decide +kernel, wd_m3_53, ok_M_X3_run, wd_s3_run, rfl⟩
theorem r_3_runBody_251 : RA M_X3_runBody 251 0 252 := Or.inl ⟨0, by decide +kernel, rfl, rfl⟩
theorem r_3_runBody_252 : RC M_X3_runBody 252 1 253 := ⟨⟨by decide, by decide⟩, Or.inl ⟨by decide +kernel, rfl⟩⟩
theorem r_3_runBody_253 : RL M_X3_runBody 253 2 254 := Or.inl ⟨2, by decide +kernel, rfl, rfl⟩
theorem r_3_runBody_254 : RL M_X3_runBody 254 3 255 := Or.inl ⟨3, by decide +kernel, rfl, rfl⟩
theorem r_3_runBody_255 : RL M_X3_runBody 255 4 257 := Or.inr ⟨by decide +kernel, rfl⟩
theorem r_3_runBody_257 : RA M_X3_runBody 257 5 259 := Or.inr ⟨by decide +kernel, rfl⟩
theorem r_3_runBody_259 : RKv M_X3_runBody M_X3_run 259 5 3 262 := ⟨53, by decide +kernel, wd_m3_53, ok_M_X3_run, wd_s3_run, rfl⟩
theorem r_3_runBody_262 : RW M_X3_runBody 262 .isub 263 1 := ⟨by decide +kernel, rfl⟩
theorem r_3_runBody_263 : RW M_X3_runBody 263 .ireturn 264 1 := ⟨by decide +kernel, rfl⟩
theorem r_3_runBody_264 : RA M_X3_runBody 264 0 265 := Or.inl ⟨0, by decide +kernel, rfl, rfl⟩
theorem r_3_runBody_265 : RC M_X3_runBody 265 0 266 := ⟨⟨by decide, by decide⟩, Or.inl ⟨by decide +kernel, rfl⟩⟩
theorem r_3_runBody_266 : RL M_X3_runBody 266 2 267 := Or.inl ⟨2, by decide +kernel, rfl, rfl⟩
theorem r_3_runBody_267 : RL M_X3_runBody 267 3 268 := Or.inl ⟨3, by decide +kernel, rfl, rfl⟩
theorem r_3_runBody_268 : RL M_X3_runBody 268 4 270 := Or.inr ⟨by decide +kernel, rfl⟩
theorem r_3_runBody_270 : RA M_X3_runBody 270 5 272 := Or.inr ⟨by decide +kernel, rfl⟩
theorem r_3_runBody_272 : RKv M_X3_runBody M_X3_run 272 5 3 275 := ⟨53, by decide +kernel, wd_m3_53, ok_M_X3_run, wd_s3_run, rfl⟩
theorem r_3_runBody_275 : RC M_X3_runBody 275 3 276 := ⟨⟨by decide, by decide⟩, Or.inl ⟨by decide +kernel, rfl⟩⟩
theorem r_3_runBody_276 : RW M_X3_runBody 276 .imul 277 1 := ⟨by decide +kernel, rfl⟩
theorem r_3_runBody_277 : RW M_X3_runBody 277 .ireturn 278 1 := ⟨by decide +kernel, rfl⟩
theorem r_3_runBody_278 : RA M_X3_runBody 278 0 279 := Or.inl ⟨0, by decide +kernel, rfl, rfl⟩
theorem r_3_runBody_279 : RC M_X3_runBody 279 1 280 := ⟨⟨by decide, by decide⟩, Or.inl ⟨by decide +kernel, rfl⟩⟩
theorem r_3_runBody_280 : RL M_X3_runBody 280 2 281 := Or.inl ⟨2, by decide +kernel, rfl, rfl⟩
theorem r_3_runBody_281 : RL M_X3_runBody 281 3 282 := Or.inl ⟨3, by decide +kernel, rfl, rfl⟩
theorem r_3_runBody_282 : RL M_X3_runBody 282 4 284 := Or.inr ⟨by decide +kernel, rfl⟩
theorem r_3_runBody_284 : RA M_X3_runBody 284 5 286 := Or.inr ⟨by decide +kernel, rfl⟩
theorem r_3_runBody_286 : RKv M_X3_runBody M_X3_run 286 5 3 289 := ⟨53, by decide +kernel, wd_m3_53, ok_M_X3_run, wd_s3_run, rfl⟩
theorem r_3_runBody_289 : RA M_X3_runBody 289 0 290 := Or.inl ⟨0, by decide +kernel, rfl, rfl⟩
theorem r_3_runBody_290 : RC M_X3_runBody 290 0 291 := ⟨⟨by decide, by decide⟩, Or.inl ⟨by decide +kernel, rfl⟩⟩
theorem r_3_runBody_291 : RA M_X3_runBody 291 0 292 := Or.inl ⟨0, by decide +kernel, rfl, rfl⟩
theorem r_3_runBody_292 : RG M_X3_runBody 292 3 1 295 := ⟨15, _, by decide +kernel, rfl, by decide, wd_f3_15, rfl, rfl⟩
theorem r_3_runBody_295 : RL M_X3_runBody 295 3 296 := Or.inl ⟨3, by decide +kernel, rfl, rfl⟩
theorem r_3_runBody_296 : RL M_X3_runBody 296 4 298 := Or.inr ⟨by decide +kernel, rfl⟩
theorem r_3_runBody_298 : RA M_X3_runBody 298 5 300 := Or.inr ⟨by decide +kernel, rfl⟩
theorem r_3_runBody_300 : RKv M_X3_runBody M_X3_run 300 5 3 303 := ⟨53, by decide +kernel, wd_m3_53, ok_M_X3_run, wd_s3_run, rfl⟩
theorem r_3_runBody_303 : RW M_X3_runBody 303 .ixor 304 1 := ⟨by decide +kernel, rfl⟩
theorem r_3_runBody_304 : RW M_X3_runBody 304 .ireturn 305 1 := ⟨by decide +kernel, rfl⟩
theorem r_3_runBody_305 : RA M_X3_runBody 305 0 306 := Or.inl ⟨0, by decide +kernel, rfl, rfl⟩
theorem r_3_runBody_306 : RC M_X3_runBody 306 0 307 := ⟨⟨by decide, by decide⟩, Or.inl ⟨by decide +kernel, rfl⟩⟩
theorem r_3_runBody_307 : RL M_X3_runBody 307 2 308 := Or.inl ⟨2, by decide +kernel, rfl, rfl⟩
theorem r_3_runBody_308 : RL M_X3_runBody 308 3 309 := Or.inl ⟨3, by decide +kernel, rfl, rfl⟩
theorem r_3_runBody_309 : RL M_X3_runBody 309 4 311 := Or.inr ⟨by decide +kernel, rfl⟩
theorem r_3_runBody_311 : RA M_X3_runBody 311 5 313 := Or.inr ⟨by decide +kernel, rfl⟩
theorem r_3_runBody_313 : RKv M_X3_runBody M_X3_run 313 5 3 316 := ⟨53, by decide +kernel, wd_m3_53, ok_M_X3_run, wd_s3_run, rfl⟩
theorem r_3_runBody_316 : RC M_X3_runBody 316 5 317 := ⟨⟨by decide, by decide⟩, Or.inl ⟨by decide +kernel, rfl⟩⟩
theorem r_3_runBody_317 : RW M_X3_runBody 317 .iadd 318 1 := ⟨by decide +kernel, rfl⟩
theorem r_3_runBody_318 : RW M_X3_runBody 318 .ireturn 319 1 := ⟨by decide +kernel, rfl⟩
theorem r_3_runBody_319 : RC M_X3_runBody 319 0 320 := ⟨⟨by decide, by decide⟩, Or.inl ⟨by decide +kernel, rfl⟩⟩
theorem r_3_runBody_320 : RW M_X3_runBody 320 .ireturn 321 1 := ⟨by decide +kernel, rfl⟩
theorem r_3_run_0 : RL M_X3_run 0 2 1 := Or.inl ⟨2, by decide +kernel, rfl, rfl⟩
theorem r_3_run_1 : RS M_X3_run 1 6 3 := ⟨by decide, Or.inr ⟨by decide +kernel, rfl⟩⟩
theorem r_3_run_3 : RC M_X3_run 3 0 4 := ⟨⟨by decide, by decide⟩, Or.inl ⟨by decide +kernel, rfl⟩⟩
theorem r_3_run_4 : RS M_X3_run 4 7 6 := ⟨by decide, Or.inr ⟨by decide +kernel, rfl⟩⟩
theorem r_3_run_6 : RL M_X3_run 6 7 8 := Or.inr ⟨by decide +kernel, rfl⟩
theorem r_3_run_8 : RC M_X3_run 8 8 10 := ⟨⟨by decide, by decide⟩, Or.inr (Or.inl ⟨by decide +kernel, by decide, rfl⟩)⟩
theorem r_3_run_10 : RB M_X3_run 10 (.if_icmp .ge) 52 13 := ⟨42, by decide +kernel, rfl, rfl⟩
theorem r_3_run_13 : RL M_X3_run 13 6 15 := Or.inr ⟨by decide +kernel, rfl⟩
theorem r_3_run_15 : RB M_X3_run 15 (.ifCond .le) 52 18 := ⟨37, by decide +kernel, rfl, rfl⟩
theorem r_3_run_18 : RL M_X3_run 18 6 20 := Or.inr ⟨by decide +kernel, rfl⟩
theorem r_3_run_20 : RC M_X3_run 20 8 22 := ⟨⟨by decide, by decide⟩, Or.inr (Or.inl ⟨by decide +kernel, by decide, rfl⟩)⟩
theorem r_3_run_22 : RB M_X3_run 22 (.if_icmp .ge) 52 25 := ⟨30, by decide +kernel, rfl, rfl⟩
theorem r_3_run_25 : RGS M_X3_run 25 "BODIES" 28 := ⟨58, by decide +kernel, wd_f3_58, rfl⟩
theorem r_3_run_28 : RL M_X3_run 28 6 30 := Or.inr ⟨by decide +kernel, rfl⟩
theorem r_3_run_30 : RC M_X3_run 30 3 31 := ⟨⟨by decide, by decide⟩, Or.inl ⟨by decide +kernel, rfl⟩⟩
theorem r_3_run_31 : RW M_X3_run 31 .imul 32 1 := ⟨by decide +kernel, rfl⟩
theorem r_3_run_32 : RL M_X3_run 32 1 33 := Or.inl ⟨1, by decide +kernel, rfl, rfl⟩
theorem r_3_run_33 : RW M_X3_run 33 .iadd 34 1 := ⟨by decide +kernel, rfl⟩
theorem r_3_run_34 : RW M_X3_run 34 .iaload 35 1 := ⟨by decide +kernel, rfl⟩
theorem r_3_run_35 : RB M_X3_run 35 (.ifCond .ne) 52 38 := ⟨17, by decide +kernel, rfl, rfl⟩
theorem r_3_run_38 : RGS M_X3_run 38 "ABOVE" 41 := ⟨45, by decide +kernel, wd_f3_45, rfl⟩
theorem r_3_run_41 : RL M_X3_run 41 6 43 := Or.inr ⟨by decide +kernel, rfl⟩
theorem r_3_run_43 : RW M_X3_run 43 .iaload 44 1 := ⟨by decide +kernel, rfl⟩
theorem r_3_run_44 : RS M_X3_run 44 6 46 := ⟨by decide, Or.inr ⟨by decide +kernel, rfl⟩⟩
theorem r_3_run_46 : RI M_X3_run 46 7 1 49 := ⟨by decide, by decide +kernel, rfl⟩
theorem r_3_run_49 : RB M_X3_run 49 .goto 6 52 := ⟨(-43), by decide +kernel, rfl, rfl⟩
theorem r_3_perform_0 : RL M_X3_perform 0 1 1 := Or.inl ⟨1, by decide +kernel, rfl, rfl⟩
theorem r_3_perform_1 : RC M_X3_perform 1 0 2 := ⟨⟨by decide, by decide⟩, Or.inl ⟨by decide +kernel, rfl⟩⟩
theorem r_3_perform_2 : RC M_X3_perform 2 2 3 := ⟨⟨by decide, by decide⟩, Or.inl ⟨by decide +kernel, rfl⟩⟩
theorem r_3_perform_3 : RKs M_X3_perform M_X11_within 3 3 6 := ⟨49, by decide +kernel, Or.inr (by decide +kernel), ok_M_X11_within, rfl⟩
theorem r_3_perform_6 : RB M_X3_perform 6 (.ifCond .eq) 24 9 := ⟨18, by decide +kernel, rfl, rfl⟩
theorem r_3_perform_9 : RA M_X3_perform 9 0 10 := Or.inl ⟨0, by decide +kernel, rfl, rfl⟩
theorem r_3_perform_10 : RL M_X3_perform 10 1 11 := Or.inl ⟨1, by decide +kernel, rfl, rfl⟩
theorem r_3_perform_11 : RA M_X3_perform 11 0 12 := Or.inl ⟨0, by decide +kernel, rfl, rfl⟩
theorem r_3_perform_12 : RG M_X3_perform 12 3 1 15 := ⟨15, _, by decide +kernel, rfl, by decide, wd_f3_15, rfl, rfl⟩
theorem r_3_perform_15 : RL M_X3_perform 15 2 16 := Or.inl ⟨2, by decide +kernel, rfl, rfl⟩
theorem r_3_perform_16 : RC M_X3_perform 16 0 17 := ⟨⟨by decide, by decide⟩, Or.inl ⟨by decide +kernel, rfl⟩⟩
theorem r_3_perform_17 : RA M_X3_perform 17 3 18 := Or.inl ⟨3, by decide +kernel, rfl, rfl⟩
theorem r_3_perform_18 : RKv M_X3_perform M_X3_run 18 5 3 21 := ⟨53, by decide +kernel, wd_m3_53, ok_M_X3_run, wd_s3_run, rfl⟩
theorem r_3_perform_21 : RB M_X3_perform 21 .goto 26 24 := ⟨5, by decide +kernel, rfl, rfl⟩
theorem r_3_perform_26 : RW M_X3_perform 26 .ireturn 27 1 := ⟨by decide +kernel, rfl⟩
theorem r_1_actOf_0 : RA M_X1_actOf 0 0 1 := Or.inl ⟨0, by decide +kernel, rfl, rfl⟩
theorem r_1_actOf_1 : RL M_X1_actOf 1 1 2 := Or.inl ⟨1, by decide +kernel, rfl, rfl⟩
theorem r_1_actOf_2 : RKv M_X1_actOf M_X1_get 2 1 1 5 := ⟨125, by decide +kernel, wd_m1_125, ok_M_X1_get, wd_s1_get, rfl⟩
theorem r_1_actOf_5 : RT M_X1_actOf 5 4 7 := ⟨by decide, Or.inr ⟨by decide +kernel, rfl⟩⟩
theorem r_1_actOf_7 : RA M_X1_actOf 7 4 9 := Or.inr ⟨by decide +kernel, rfl⟩
theorem r_1_actOf_9 : RB M_X1_actOf 9 .ifnull 21 12 := ⟨12, by decide +kernel, rfl, rfl⟩
theorem r_1_actOf_21 : RC M_X1_actOf 21 (-2000000000) 23 := ⟨⟨by decide, by decide⟩, Or.inr (Or.inr (Or.inr (Or.inl ⟨148, by decide +kernel, wd_c1_148, rfl⟩)))⟩
theorem r_1_actOf_23 : RW M_X1_actOf 23 .ireturn 24 1 := ⟨by decide +kernel, rfl⟩
theorem r_1_actOf_12 : RL M_X1_actOf 12 2 13 := Or.inl ⟨2, by decide +kernel, rfl, rfl⟩
theorem r_1_actOf_13 : RC M_X1_actOf 13 0 14 := ⟨⟨by decide, by decide⟩, Or.inl ⟨by decide +kernel, rfl⟩⟩
theorem r_1_actOf_14 : RC M_X1_actOf 14 2 15 := ⟨⟨by decide, by decide⟩, Or.inl ⟨by decide +kernel, rfl⟩⟩
theorem r_1_actOf_15 : RKs M_X1_actOf M_X11_within 15 3 18 := ⟨56, by decide +kernel, Or.inr (by decide +kernel), ok_M_X11_within, rfl⟩
theorem r_1_actOf_18 : RB M_X1_actOf 18 (.ifCond .ne) 24 21 := ⟨6, by decide +kernel, rfl, rfl⟩
theorem r_1_actOf_24 : RA M_X1_actOf 24 0 25 := Or.inl ⟨0, by decide +kernel, rfl, rfl⟩
theorem r_1_actOf_25 : RC M_X1_actOf 25 0 26 := ⟨⟨by decide, by decide⟩, Or.inl ⟨by decide +kernel, rfl⟩⟩
theorem r_1_actOf_26 : RP M_X1_actOf 26 1 17 29 := ⟨194, _, by decide +kernel, rfl, by decide, wd_f1_194, rfl, Or.inl rfl, rfl⟩
theorem r_1_actOf_29 : RA M_X1_actOf 29 4 31 := Or.inr ⟨by decide +kernel, rfl⟩
theorem r_1_actOf_31 : RL M_X1_actOf 31 2 32 := Or.inl ⟨2, by decide +kernel, rfl, rfl⟩
theorem r_1_actOf_32 : RL M_X1_actOf 32 3 33 := Or.inl ⟨3, by decide +kernel, rfl, rfl⟩
theorem r_1_actOf_33 : RA M_X1_actOf 33 0 34 := Or.inl ⟨0, by decide +kernel, rfl, rfl⟩
theorem r_1_actOf_34 : RKv M_X1_actOf M_X3_perform 34 3 3 37 := ⟨197, by decide +kernel, wd_m1_197, ok_M_X3_perform, wd_s3_perform, rfl⟩
theorem r_1_actOf_37 : RW M_X1_actOf 37 .ireturn 38 1 := ⟨by decide +kernel, rfl⟩
theorem r_12_goesBy_0 : RL M_X12_goesBy 0 1 1 := Or.inl ⟨1, by decide +kernel, rfl, rfl⟩
theorem r_12_goesBy_1 : RTS M_X12_goesBy 1 [(0, 48), (1, 66), (2, 140), (3, 140), (4, 84), (5, 140), (6, 102), (7, 121)] 140 := ⟨139, 0, 7, #[47, 65, 139, 139, 83, 139, 101, 120], 47, by decide +kernel, by decide, rfl, by decide⟩
theorem r_12_goesBy_48 : RA M_X12_goesBy 48 0 49 := Or.inl ⟨0, by decide +kernel, rfl, rfl⟩
theorem r_12_goesBy_49 : RC M_X12_goesBy 49 10 51 := ⟨⟨by decide, by decide⟩, Or.inr (Or.inl ⟨by decide +kernel, by decide, rfl⟩)⟩
theorem r_12_goesBy_51 : RKv M_X12_goesBy M_X12_begins 51 1 12 54 := ⟨519, by decide +kernel, wd_m12_519, ok_M_X12_begins, wd_s12_begins, rfl⟩
theorem r_12_goesBy_54 : RL M_X12_goesBy 54 2 55 := Or.inl ⟨2, by decide +kernel, rfl, rfl⟩
theorem r_12_goesBy_55 : RA M_X12_goesBy 55 0 56 := Or.inl ⟨0, by decide +kernel, rfl, rfl⟩
theorem r_12_goesBy_56 : RG M_X12_goesBy 56 12 10 59 := ⟨34, _, by decide +kernel, rfl, by decide, wd_f12_34, rfl, rfl⟩
theorem r_12_goesBy_59 : RA M_X12_goesBy 59 0 60 := Or.inl ⟨0, by decide +kernel, rfl, rfl⟩
theorem r_12_goesBy_60 : RG M_X12_goesBy 60 12 105 63 := ⟨522, _, by decide +kernel, rfl, by decide, wd_f12_522, rfl, rfl⟩
theorem r_12_goesBy_63 : RW M_X12_goesBy 63 .iaload 64 1 := ⟨by decide +kernel, rfl⟩
theorem r_12_goesBy_64 : RW M_X12_goesBy 64 .iadd 65 1 := ⟨by decide +kernel, rfl⟩
theorem r_12_goesBy_65 : RW M_X12_goesBy 65 .ireturn 66 1 := ⟨by decide +kernel, rfl⟩
theorem r_12_goesBy_66 : RA M_X12_goesBy 66 0 67 := Or.inl ⟨0, by decide +kernel, rfl, rfl⟩
theorem r_12_goesBy_67 : RC M_X12_goesBy 67 20 69 := ⟨⟨by decide, by decide⟩, Or.inr (Or.inl ⟨by decide +kernel, by decide, rfl⟩)⟩
theorem r_12_goesBy_69 : RKv M_X12_goesBy M_X12_begins 69 1 12 72 := ⟨519, by decide +kernel, wd_m12_519, ok_M_X12_begins, wd_s12_begins, rfl⟩
theorem r_12_goesBy_72 : RA M_X12_goesBy 72 0 73 := Or.inl ⟨0, by decide +kernel, rfl, rfl⟩
theorem r_12_goesBy_73 : RC M_X12_goesBy 73 1 74 := ⟨⟨by decide, by decide⟩, Or.inl ⟨by decide +kernel, rfl⟩⟩
theorem r_12_goesBy_74 : RKs M_X12_goesBy M_X12_above 74 1 77 := ⟨525, by decide +kernel, Or.inl wd_m12_525, ok_M_X12_above, rfl⟩
theorem r_12_goesBy_77 : RL M_X12_goesBy 77 2 78 := Or.inl ⟨2, by decide +kernel, rfl, rfl⟩
theorem r_12_goesBy_78 : RKv M_X12_goesBy M_X12_goesBy 78 2 12 81 := ⟨528, by decide +kernel, wd_m12_528, ok_M_X12_goesBy, wd_s12_goesBy, rfl⟩
theorem r_12_goesBy_81 : RC M_X12_goesBy 81 1 82 := ⟨⟨by decide, by decide⟩, Or.inl ⟨by decide +kernel, rfl⟩⟩
theorem r_12_goesBy_82 : RW M_X12_goesBy 82 .isub 83 1 := ⟨by decide +kernel, rfl⟩
theorem r_12_goesBy_83 : RW M_X12_goesBy 83 .ireturn 84 1 := ⟨by decide +kernel, rfl⟩
theorem r_12_goesBy_140 : RA M_X12_goesBy 140 0 141 := Or.inl ⟨0, by decide +kernel, rfl, rfl⟩
theorem r_12_goesBy_141 : RL M_X12_goesBy 141 1 142 := Or.inl ⟨1, by decide +kernel, rfl, rfl⟩
theorem r_12_goesBy_142 : RKs M_X12_goesBy M_X12_above 142 1 145 := ⟨525, by decide +kernel, Or.inl wd_m12_525, ok_M_X12_above, rfl⟩
theorem r_12_goesBy_145 : RL M_X12_goesBy 145 2 146 := Or.inl ⟨2, by decide +kernel, rfl, rfl⟩
theorem r_12_goesBy_146 : RKv M_X12_goesBy M_X12_goesBy 146 2 12 149 := ⟨528, by decide +kernel, wd_m12_528, ok_M_X12_goesBy, wd_s12_goesBy, rfl⟩
theorem r_12_goesBy_149 : RW M_X12_goesBy 149 .ireturn 150 1 := ⟨by decide +kernel, rfl⟩
theorem r_12_goesBy_84 : RA M_X12_goesBy 84 0 85 := Or.inl ⟨0, by decide +kernel, rfl, rfl⟩
theorem r_12_goesBy_85 : RC M_X12_goesBy 85 50 87 := ⟨⟨by decide, by decide⟩, Or.inr (Or.inl ⟨by decide +kernel, by decide, rfl⟩)⟩
theorem r_12_goesBy_87 : RKv M_X12_goesBy M_X12_begins 87 1 12 90 := ⟨519, by decide +kernel, wd_m12_519, ok_M_X12_begins, wd_s12_begins, rfl⟩
theorem r_12_goesBy_90 : RA M_X12_goesBy 90 0 91 := Or.inl ⟨0, by decide +kernel, rfl, rfl⟩
theorem r_12_goesBy_91 : RC M_X12_goesBy 91 4 92 := ⟨⟨by decide, by decide⟩, Or.inl ⟨by decide +kernel, rfl⟩⟩
theorem r_12_goesBy_92 : RKs M_X12_goesBy M_X12_above 92 1 95 := ⟨525, by decide +kernel, Or.inl wd_m12_525, ok_M_X12_above, rfl⟩
theorem r_12_goesBy_95 : RL M_X12_goesBy 95 2 96 := Or.inl ⟨2, by decide +kernel, rfl, rfl⟩
theorem r_12_goesBy_96 : RC M_X12_goesBy 96 3 97 := ⟨⟨by decide, by decide⟩, Or.inl ⟨by decide +kernel, rfl⟩⟩
theorem r_12_goesBy_97 : RW M_X12_goesBy 97 .iadd 98 1 := ⟨by decide +kernel, rfl⟩
theorem r_12_goesBy_98 : RKv M_X12_goesBy M_X12_goesBy 98 2 12 101 := ⟨528, by decide +kernel, wd_m12_528, ok_M_X12_goesBy, wd_s12_goesBy, rfl⟩
theorem r_12_goesBy_101 : RW M_X12_goesBy 101 .ireturn 102 1 := ⟨by decide +kernel, rfl⟩
theorem r_12_goesBy_102 : RA M_X12_goesBy 102 0 103 := Or.inl ⟨0, by decide +kernel, rfl, rfl⟩
theorem r_12_goesBy_103 : RC M_X12_goesBy 103 70 105 := ⟨⟨by decide, by decide⟩, Or.inr (Or.inl ⟨by decide +kernel, by decide, rfl⟩)⟩
theorem r_12_goesBy_105 : RKv M_X12_goesBy M_X12_begins 105 1 12 108 := ⟨519, by decide +kernel, wd_m12_519, ok_M_X12_begins, wd_s12_begins, rfl⟩
theorem r_12_goesBy_108 : RA M_X12_goesBy 108 0 109 := Or.inl ⟨0, by decide +kernel, rfl, rfl⟩
theorem r_12_goesBy_109 : RC M_X12_goesBy 109 6 111 := ⟨⟨by decide, by decide⟩, Or.inr (Or.inl ⟨by decide +kernel, by decide, rfl⟩)⟩
theorem r_12_goesBy_111 : RKs M_X12_goesBy M_X12_above 111 1 114 := ⟨525, by decide +kernel, Or.inl wd_m12_525, ok_M_X12_above, rfl⟩
theorem r_12_goesBy_114 : RL M_X12_goesBy 114 2 115 := Or.inl ⟨2, by decide +kernel, rfl, rfl⟩
theorem r_12_goesBy_115 : RKv M_X12_goesBy M_X12_goesBy 115 2 12 118 := ⟨528, by decide +kernel, wd_m12_528, ok_M_X12_goesBy, wd_s12_goesBy, rfl⟩
theorem r_12_goesBy_118 : RC M_X12_goesBy 118 3 119 := ⟨⟨by decide, by decide⟩, Or.inl ⟨by decide +kernel, rfl⟩⟩
theorem r_12_goesBy_119 : RW M_X12_goesBy 119 .imul 120 1 := ⟨by decide +kernel, rfl⟩
theorem r_12_goesBy_120 : RW M_X12_goesBy 120 .ireturn 121 1 := ⟨by decide +kernel, rfl⟩
theorem r_12_goesBy_121 : RA M_X12_goesBy 121 0 122 := Or.inl ⟨0, by decide +kernel, rfl, rfl⟩
theorem r_12_goesBy_122 : RC M_X12_goesBy 122 81 124 := ⟨⟨by decide, by decide⟩, Or.inr (Or.inl ⟨by decide +kernel, by decide, rfl⟩)⟩
theorem r_12_goesBy_124 : RKv M_X12_goesBy M_X12_begins 124 1 12 127 := ⟨519, by decide +kernel, wd_m12_519, ok_M_X12_begins, wd_s12_begins, rfl⟩
theorem r_12_goesBy_127 : RA M_X12_goesBy 127 0 128 := Or.inl ⟨0, by decide +kernel, rfl, rfl⟩
theorem r_12_goesBy_128 : RC M_X12_goesBy 128 7 130 := ⟨⟨by decide, by decide⟩, Or.inr (Or.inl ⟨by decide +kernel, by decide, rfl⟩)⟩
theorem r_12_goesBy_130 : RKs M_X12_goesBy M_X12_above 130 1 133 := ⟨525, by decide +kernel, Or.inl wd_m12_525, ok_M_X12_above, rfl⟩
theorem r_12_goesBy_133 : RL M_X12_goesBy 133 2 134 := Or.inl ⟨2, by decide +kernel, rfl, rfl⟩
theorem r_12_goesBy_134 : RKv M_X12_goesBy M_X12_goesBy 134 2 12 137 := ⟨528, by decide +kernel, wd_m12_528, ok_M_X12_goesBy, wd_s12_goesBy, rfl⟩
theorem r_12_goesBy_137 : RC M_X12_goesBy 137 5 138 := ⟨⟨by decide, by decide⟩, Or.inl ⟨by decide +kernel, rfl⟩⟩
theorem r_12_goesBy_138 : RW M_X12_goesBy 138 .iadd 139 1 := ⟨by decide +kernel, rfl⟩
theorem r_12_goesBy_139 : RW M_X12_goesBy 139 .ireturn 140 1 := ⟨by decide +kernel, rfl⟩
theorem r_12_ranksBy_0 : RC M_X12_ranksBy 0 0 1 := ⟨⟨by decide, by decide⟩, Or.inl ⟨by decide +kernel, rfl⟩⟩
theorem r_12_ranksBy_1 : RS M_X12_ranksBy 1 3 2 := ⟨by decide, Or.inl ⟨3, by decide +kernel, rfl, rfl⟩⟩
theorem r_12_ranksBy_2 : RL M_X12_ranksBy 2 1 3 := Or.inl ⟨1, by decide +kernel, rfl, rfl⟩
theorem r_12_ranksBy_3 : RTS M_X12_ranksBy 3 [(0, 48), (1, 164), (2, 71), (3, 164), (4, 164), (5, 97), (6, 164), (7, 130)] 164 := ⟨161, 0, 7, #[45, 161, 68, 161, 161, 94, 161, 127], 45, by decide +kernel, by decide, rfl, by decide⟩
theorem r_12_ranksBy_48 : RA M_X12_ranksBy 48 0 49 := Or.inl ⟨0, by decide +kernel, rfl, rfl⟩
theorem r_12_ranksBy_49 : RC M_X12_ranksBy 49 11 51 := ⟨⟨by decide, by decide⟩, Or.inr (Or.inl ⟨by decide +kernel, by decide, rfl⟩)⟩
theorem r_12_ranksBy_51 : RKv M_X12_ranksBy M_X12_begins 51 1 12 54 := ⟨519, by decide +kernel, wd_m12_519, ok_M_X12_begins, wd_s12_begins, rfl⟩
theorem r_12_ranksBy_54 : RA M_X12_ranksBy 54 0 55 := Or.inl ⟨0, by decide +kernel, rfl, rfl⟩
theorem r_12_ranksBy_55 : RA M_X12_ranksBy 55 0 56 := Or.inl ⟨0, by decide +kernel, rfl, rfl⟩
theorem r_12_ranksBy_56 : RG M_X12_ranksBy 56 12 6 59 := ⟨22, _, by decide +kernel, rfl, by decide, wd_f12_22, rfl, rfl⟩
theorem r_12_ranksBy_59 : RA M_X12_ranksBy 59 0 60 := Or.inl ⟨0, by decide +kernel, rfl, rfl⟩
theorem r_12_ranksBy_60 : RG M_X12_ranksBy 60 12 105 63 := ⟨522, _, by decide +kernel, rfl, by decide, wd_f12_522, rfl, rfl⟩
theorem r_12_ranksBy_63 : RW M_X12_ranksBy 63 .iaload 64 1 := ⟨by decide +kernel, rfl⟩
theorem r_12_ranksBy_64 : RL M_X12_ranksBy 64 2 65 := Or.inl ⟨2, by decide +kernel, rfl, rfl⟩
theorem r_12_ranksBy_65 : RKv M_X12_ranksBy M_X12_goesBy 65 2 12 68 := ⟨528, by decide +kernel, wd_m12_528, ok_M_X12_goesBy, wd_s12_goesBy, rfl⟩
theorem r_12_ranksBy_68 : RC M_X12_ranksBy 68 2 69 := ⟨⟨by decide, by decide⟩, Or.inl ⟨by decide +kernel, rfl⟩⟩
theorem r_12_ranksBy_69 : RW M_X12_ranksBy 69 .imul 70 1 := ⟨by decide +kernel, rfl⟩
theorem r_12_ranksBy_70 : RW M_X12_ranksBy 70 .ireturn 71 1 := ⟨by decide +kernel, rfl⟩
theorem r_12_ranksBy_164 : RA M_X12_ranksBy 164 0 165 := Or.inl ⟨0, by decide +kernel, rfl, rfl⟩
theorem r_12_ranksBy_165 : RL M_X12_ranksBy 165 1 166 := Or.inl ⟨1, by decide +kernel, rfl, rfl⟩
theorem r_12_ranksBy_166 : RKs M_X12_ranksBy M_X12_above 166 1 169 := ⟨525, by decide +kernel, Or.inl wd_m12_525, ok_M_X12_above, rfl⟩
theorem r_12_ranksBy_169 : RL M_X12_ranksBy 169 2 170 := Or.inl ⟨2, by decide +kernel, rfl, rfl⟩
theorem r_12_ranksBy_170 : RKv M_X12_ranksBy M_X12_ranksBy 170 2 12 173 := ⟨531, by decide +kernel, wd_m12_531, ok_M_X12_ranksBy, wd_s12_ranksBy, rfl⟩
theorem r_12_ranksBy_173 : RW M_X12_ranksBy 173 .ireturn 174 1 := ⟨by decide +kernel, rfl⟩
theorem r_12_ranksBy_71 : RA M_X12_ranksBy 71 0 72 := Or.inl ⟨0, by decide +kernel, rfl, rfl⟩
theorem r_12_ranksBy_72 : RC M_X12_ranksBy 72 30 74 := ⟨⟨by decide, by decide⟩, Or.inr (Or.inl ⟨by decide +kernel, by decide, rfl⟩)⟩
theorem r_12_ranksBy_74 : RKv M_X12_ranksBy M_X12_begins 74 1 12 77 := ⟨519, by decide +kernel, wd_m12_519, ok_M_X12_begins, wd_s12_begins, rfl⟩
theorem r_12_ranksBy_77 : RA M_X12_ranksBy 77 0 78 := Or.inl ⟨0, by decide +kernel, rfl, rfl⟩
theorem r_12_ranksBy_78 : RC M_X12_ranksBy 78 2 79 := ⟨⟨by decide, by decide⟩, Or.inl ⟨by decide +kernel, rfl⟩⟩
theorem r_12_ranksBy_79 : RKs M_X12_ranksBy M_X12_above 79 1 82 := ⟨525, by decide +kernel, Or.inl wd_m12_525, ok_M_X12_above, rfl⟩
theorem r_12_ranksBy_82 : RL M_X12_ranksBy 82 2 83 := Or.inl ⟨2, by decide +kernel, rfl, rfl⟩
theorem r_12_ranksBy_83 : RKv M_X12_ranksBy M_X12_ranksBy 83 2 12 86 := ⟨531, by decide +kernel, wd_m12_531, ok_M_X12_ranksBy, wd_s12_ranksBy, rfl⟩
theorem r_12_ranksBy_86 : RA M_X12_ranksBy 86 0 87 := Or.inl ⟨0, by decide +kernel, rfl, rfl⟩
theorem r_12_ranksBy_87 : RG M_X12_ranksBy 87 12 12 90 := ⟨40, _, by decide +kernel, rfl, by decide, wd_f12_40, rfl, rfl⟩
theorem r_12_ranksBy_90 : RA M_X12_ranksBy 90 0 91 := Or.inl ⟨0, by decide +kernel, rfl, rfl⟩
theorem r_12_ranksBy_91 : RG M_X12_ranksBy 91 12 105 94 := ⟨522, _, by decide +kernel, rfl, by decide, wd_f12_522, rfl, rfl⟩
theorem r_12_ranksBy_94 : RW M_X12_ranksBy 94 .iaload 95 1 := ⟨by decide +kernel, rfl⟩
theorem r_12_ranksBy_95 : RW M_X12_ranksBy 95 .iadd 96 1 := ⟨by decide +kernel, rfl⟩
theorem r_12_ranksBy_96 : RW M_X12_ranksBy 96 .ireturn 97 1 := ⟨by decide +kernel, rfl⟩
theorem r_12_ranksBy_97 : RA M_X12_ranksBy 97 0 98 := Or.inl ⟨0, by decide +kernel, rfl, rfl⟩
theorem r_12_ranksBy_98 : RC M_X12_ranksBy 98 60 100 := ⟨⟨by decide, by decide⟩, Or.inr (Or.inl ⟨by decide +kernel, by decide, rfl⟩)⟩
theorem r_12_ranksBy_100 : RKv M_X12_ranksBy M_X12_begins 100 1 12 103 := ⟨519, by decide +kernel, wd_m12_519, ok_M_X12_begins, wd_s12_begins, rfl⟩
theorem r_12_ranksBy_103 : RA M_X12_ranksBy 103 0 104 := Or.inl ⟨0, by decide +kernel, rfl, rfl⟩
theorem r_12_ranksBy_104 : RA M_X12_ranksBy 104 0 105 := Or.inl ⟨0, by decide +kernel, rfl, rfl⟩
theorem r_12_ranksBy_105 : RG M_X12_ranksBy 105 12 6 108 := ⟨22, _, by decide +kernel, rfl, by decide, wd_f12_22, rfl, rfl⟩
theorem r_12_ranksBy_108 : RA M_X12_ranksBy 108 0 109 := Or.inl ⟨0, by decide +kernel, rfl, rfl⟩
theorem r_12_ranksBy_109 : RG M_X12_ranksBy 109 12 105 112 := ⟨522, _, by decide +kernel, rfl, by decide, wd_f12_522, rfl, rfl⟩
theorem r_12_ranksBy_112 : RW M_X12_ranksBy 112 .iaload 113 1 := ⟨by decide +kernel, rfl⟩
theorem r_12_ranksBy_113 : RL M_X12_ranksBy 113 2 114 := Or.inl ⟨2, by decide +kernel, rfl, rfl⟩
theorem r_12_ranksBy_114 : RKv M_X12_ranksBy M_X12_goesBy 114 2 12 117 := ⟨528, by decide +kernel, wd_m12_528, ok_M_X12_goesBy, wd_s12_goesBy, rfl⟩
theorem r_12_ranksBy_117 : RS M_X12_ranksBy 117 3 118 := ⟨by decide, Or.inl ⟨3, by decide +kernel, rfl, rfl⟩⟩
theorem r_12_ranksBy_118 : RL M_X12_ranksBy 118 3 119 := Or.inl ⟨3, by decide +kernel, rfl, rfl⟩
theorem r_12_ranksBy_119 : RA M_X12_ranksBy 119 0 120 := Or.inl ⟨0, by decide +kernel, rfl, rfl⟩
theorem r_12_ranksBy_120 : RC M_X12_ranksBy 120 5 121 := ⟨⟨by decide, by decide⟩, Or.inl ⟨by decide +kernel, rfl⟩⟩
theorem r_12_ranksBy_121 : RKs M_X12_ranksBy M_X12_above 121 1 124 := ⟨525, by decide +kernel, Or.inl wd_m12_525, ok_M_X12_above, rfl⟩
theorem r_12_ranksBy_124 : RL M_X12_ranksBy 124 2 125 := Or.inl ⟨2, by decide +kernel, rfl, rfl⟩
theorem r_12_ranksBy_125 : RKv M_X12_ranksBy M_X12_ranksBy 125 2 12 128 := ⟨531, by decide +kernel, wd_m12_531, ok_M_X12_ranksBy, wd_s12_ranksBy, rfl⟩
theorem r_12_ranksBy_128 : RW M_X12_ranksBy 128 .isub 129 1 := ⟨by decide +kernel, rfl⟩
theorem r_12_ranksBy_129 : RW M_X12_ranksBy 129 .ireturn 130 1 := ⟨by decide +kernel, rfl⟩
theorem r_12_ranksBy_130 : RA M_X12_ranksBy 130 0 131 := Or.inl ⟨0, by decide +kernel, rfl, rfl⟩
theorem r_12_ranksBy_131 : RC M_X12_ranksBy 131 80 133 := ⟨⟨by decide, by decide⟩, Or.inr (Or.inl ⟨by decide +kernel, by decide, rfl⟩)⟩
theorem r_12_ranksBy_133 : RKv M_X12_ranksBy M_X12_begins 133 1 12 136 := ⟨519, by decide +kernel, wd_m12_519, ok_M_X12_begins, wd_s12_begins, rfl⟩
theorem r_12_ranksBy_136 : RA M_X12_ranksBy 136 0 137 := Or.inl ⟨0, by decide +kernel, rfl, rfl⟩
theorem r_12_ranksBy_137 : RC M_X12_ranksBy 137 7 139 := ⟨⟨by decide, by decide⟩, Or.inr (Or.inl ⟨by decide +kernel, by decide, rfl⟩)⟩
theorem r_12_ranksBy_139 : RKs M_X12_ranksBy M_X12_above 139 1 142 := ⟨525, by decide +kernel, Or.inl wd_m12_525, ok_M_X12_above, rfl⟩
theorem r_12_ranksBy_142 : RL M_X12_ranksBy 142 2 143 := Or.inl ⟨2, by decide +kernel, rfl, rfl⟩
theorem r_12_ranksBy_143 : RKv M_X12_ranksBy M_X12_ranksBy 143 2 12 146 := ⟨531, by decide +kernel, wd_m12_531, ok_M_X12_ranksBy, wd_s12_ranksBy, rfl⟩
theorem r_12_ranksBy_146 : RS M_X12_ranksBy 146 3 147 := ⟨by decide, Or.inl ⟨3, by decide +kernel, rfl, rfl⟩⟩
theorem r_12_ranksBy_147 : RL M_X12_ranksBy 147 3 148 := Or.inl ⟨3, by decide +kernel, rfl, rfl⟩
theorem r_12_ranksBy_148 : RA M_X12_ranksBy 148 0 149 := Or.inl ⟨0, by decide +kernel, rfl, rfl⟩
theorem r_12_ranksBy_149 : RA M_X12_ranksBy 149 0 150 := Or.inl ⟨0, by decide +kernel, rfl, rfl⟩
theorem r_12_ranksBy_150 : RG M_X12_ranksBy 150 12 6 153 := ⟨22, _, by decide +kernel, rfl, by decide, wd_f12_22, rfl, rfl⟩
theorem r_12_ranksBy_153 : RA M_X12_ranksBy 153 0 154 := Or.inl ⟨0, by decide +kernel, rfl, rfl⟩
theorem r_12_ranksBy_154 : RG M_X12_ranksBy 154 12 105 157 := ⟨522, _, by decide +kernel, rfl, by decide, wd_f12_522, rfl, rfl⟩
theorem r_12_ranksBy_157 : RW M_X12_ranksBy 157 .iaload 158 1 := ⟨by decide +kernel, rfl⟩
theorem r_12_ranksBy_158 : RL M_X12_ranksBy 158 2 159 := Or.inl ⟨2, by decide +kernel, rfl, rfl⟩
theorem r_12_ranksBy_159 : RKv M_X12_ranksBy M_X12_goesBy 159 2 12 162 := ⟨528, by decide +kernel, wd_m12_528, ok_M_X12_goesBy, wd_s12_goesBy, rfl⟩
theorem r_12_ranksBy_162 : RW M_X12_ranksBy 162 .ixor 163 1 := ⟨by decide +kernel, rfl⟩
theorem r_12_ranksBy_163 : RW M_X12_ranksBy 163 .ireturn 164 1 := ⟨by decide +kernel, rfl⟩
theorem r_12_tellsBy_0 : RL M_X12_tellsBy 0 1 1 := Or.inl ⟨1, by decide +kernel, rfl, rfl⟩
theorem r_12_tellsBy_1 : RTS M_X12_tellsBy 1 [(0, 36), (1, 112), (2, 112), (3, 62), (4, 79)] 112 := ⟨111, 0, 4, #[35, 111, 111, 61, 78], 35, by decide +kernel, by decide, rfl, by decide⟩
theorem r_12_tellsBy_36 : RA M_X12_tellsBy 36 0 37 := Or.inl ⟨0, by decide +kernel, rfl, rfl⟩
theorem r_12_tellsBy_37 : RC M_X12_tellsBy 37 12 39 := ⟨⟨by decide, by decide⟩, Or.inr (Or.inl ⟨by decide +kernel, by decide, rfl⟩)⟩
theorem r_12_tellsBy_39 : RKv M_X12_tellsBy M_X12_begins 39 1 12 42 := ⟨519, by decide +kernel, wd_m12_519, ok_M_X12_begins, wd_s12_begins, rfl⟩
theorem r_12_tellsBy_42 : RA M_X12_tellsBy 42 0 43 := Or.inl ⟨0, by decide +kernel, rfl, rfl⟩
theorem r_12_tellsBy_43 : RA M_X12_tellsBy 43 0 44 := Or.inl ⟨0, by decide +kernel, rfl, rfl⟩
theorem r_12_tellsBy_44 : RG M_X12_tellsBy 44 12 6 47 := ⟨22, _, by decide +kernel, rfl, by decide, wd_f12_22, rfl, rfl⟩
theorem r_12_tellsBy_47 : RA M_X12_tellsBy 47 0 48 := Or.inl ⟨0, by decide +kernel, rfl, rfl⟩
theorem r_12_tellsBy_48 : RG M_X12_tellsBy 48 12 105 51 := ⟨522, _, by decide +kernel, rfl, by decide, wd_f12_522, rfl, rfl⟩
theorem r_12_tellsBy_51 : RW M_X12_tellsBy 51 .iaload 52 1 := ⟨by decide +kernel, rfl⟩
theorem r_12_tellsBy_52 : RL M_X12_tellsBy 52 2 53 := Or.inl ⟨2, by decide +kernel, rfl, rfl⟩
theorem r_12_tellsBy_53 : RKv M_X12_tellsBy M_X12_ranksBy 53 2 12 56 := ⟨531, by decide +kernel, wd_m12_531, ok_M_X12_ranksBy, wd_s12_ranksBy, rfl⟩
theorem r_12_tellsBy_56 : RA M_X12_tellsBy 56 0 57 := Or.inl ⟨0, by decide +kernel, rfl, rfl⟩
theorem r_12_tellsBy_57 : RG M_X12_tellsBy 57 12 105 60 := ⟨522, _, by decide +kernel, rfl, by decide, wd_f12_522, rfl, rfl⟩
theorem r_12_tellsBy_60 : RW M_X12_tellsBy 60 .ixor 61 1 := ⟨by decide +kernel, rfl⟩
theorem r_12_tellsBy_61 : RW M_X12_tellsBy 61 .ireturn 62 1 := ⟨by decide +kernel, rfl⟩
theorem r_12_tellsBy_112 : RA M_X12_tellsBy 112 0 113 := Or.inl ⟨0, by decide +kernel, rfl, rfl⟩
theorem r_12_tellsBy_113 : RL M_X12_tellsBy 113 1 114 := Or.inl ⟨1, by decide +kernel, rfl, rfl⟩
theorem r_12_tellsBy_114 : RKs M_X12_tellsBy M_X12_above 114 1 117 := ⟨525, by decide +kernel, Or.inl wd_m12_525, ok_M_X12_above, rfl⟩
theorem r_12_tellsBy_117 : RL M_X12_tellsBy 117 2 118 := Or.inl ⟨2, by decide +kernel, rfl, rfl⟩
theorem r_12_tellsBy_118 : RKv M_X12_tellsBy M_X12_tellsBy 118 2 12 121 := ⟨534, by decide +kernel, wd_m12_534, ok_M_X12_tellsBy, wd_s12_tellsBy, rfl⟩
theorem r_12_tellsBy_121 : RW M_X12_tellsBy 121 .ireturn 122 1 := ⟨by decide +kernel, rfl⟩
theorem r_12_tellsBy_62 : RA M_X12_tellsBy 62 0 63 := Or.inl ⟨0, by decide +kernel, rfl, rfl⟩
theorem r_12_tellsBy_63 : RC M_X12_tellsBy 63 40 65 := ⟨⟨by decide, by decide⟩, Or.inr (Or.inl ⟨by decide +kernel, by decide, rfl⟩)⟩
theorem r_12_tellsBy_65 : RKv M_X12_tellsBy M_X12_begins 65 1 12 68 := ⟨519, by decide +kernel, wd_m12_519, ok_M_X12_begins, wd_s12_begins, rfl⟩
theorem r_12_tellsBy_68 : RA M_X12_tellsBy 68 0 69 := Or.inl ⟨0, by decide +kernel, rfl, rfl⟩
theorem r_12_tellsBy_69 : RC M_X12_tellsBy 69 3 70 := ⟨⟨by decide, by decide⟩, Or.inl ⟨by decide +kernel, rfl⟩⟩
theorem r_12_tellsBy_70 : RKs M_X12_tellsBy M_X12_above 70 1 73 := ⟨525, by decide +kernel, Or.inl wd_m12_525, ok_M_X12_above, rfl⟩
theorem r_12_tellsBy_73 : RL M_X12_tellsBy 73 2 74 := Or.inl ⟨2, by decide +kernel, rfl, rfl⟩
theorem r_12_tellsBy_74 : RKv M_X12_tellsBy M_X12_tellsBy 74 2 12 77 := ⟨534, by decide +kernel, wd_m12_534, ok_M_X12_tellsBy, wd_s12_tellsBy, rfl⟩
theorem r_12_tellsBy_77 : RW M_X12_tellsBy 77 .ineg 78 1 := ⟨by decide +kernel, rfl⟩
theorem r_12_tellsBy_78 : RW M_X12_tellsBy 78 .ireturn 79 1 := ⟨by decide +kernel, rfl⟩
theorem r_12_tellsBy_79 : RA M_X12_tellsBy 79 0 80 := Or.inl ⟨0, by decide +kernel, rfl, rfl⟩
theorem r_12_tellsBy_80 : RC M_X12_tellsBy 80 51 82 := ⟨⟨by decide, by decide⟩, Or.inr (Or.inl ⟨by decide +kernel, by decide, rfl⟩)⟩
theorem r_12_tellsBy_82 : RKv M_X12_tellsBy M_X12_begins 82 1 12 85 := ⟨519, by decide +kernel, wd_m12_519, ok_M_X12_begins, wd_s12_begins, rfl⟩
theorem r_12_tellsBy_85 : RA M_X12_tellsBy 85 0 86 := Or.inl ⟨0, by decide +kernel, rfl, rfl⟩
theorem r_12_tellsBy_86 : RC M_X12_tellsBy 86 4 87 := ⟨⟨by decide, by decide⟩, Or.inl ⟨by decide +kernel, rfl⟩⟩
theorem r_12_tellsBy_87 : RKs M_X12_tellsBy M_X12_above 87 1 90 := ⟨525, by decide +kernel, Or.inl wd_m12_525, ok_M_X12_above, rfl⟩
theorem r_12_tellsBy_90 : RL M_X12_tellsBy 90 2 91 := Or.inl ⟨2, by decide +kernel, rfl, rfl⟩
theorem r_12_tellsBy_91 : RKv M_X12_tellsBy M_X12_tellsBy 91 2 12 94 := ⟨534, by decide +kernel, wd_m12_534, ok_M_X12_tellsBy, wd_s12_tellsBy, rfl⟩
theorem r_12_tellsBy_94 : RS M_X12_tellsBy 94 3 95 := ⟨by decide, Or.inl ⟨3, by decide +kernel, rfl, rfl⟩⟩
theorem r_12_tellsBy_95 : RL M_X12_tellsBy 95 3 96 := Or.inl ⟨3, by decide +kernel, rfl, rfl⟩
theorem r_12_tellsBy_96 : RA M_X12_tellsBy 96 0 97 := Or.inl ⟨0, by decide +kernel, rfl, rfl⟩
theorem r_12_tellsBy_97 : RA M_X12_tellsBy 97 0 98 := Or.inl ⟨0, by decide +kernel, rfl, rfl⟩
theorem r_12_tellsBy_98 : RG M_X12_tellsBy 98 12 6 101 := ⟨22, _, by decide +kernel, rfl, by decide, wd_f12_22, rfl, rfl⟩
theorem r_12_tellsBy_101 : RA M_X12_tellsBy 101 0 102 := Or.inl ⟨0, by decide +kernel, rfl, rfl⟩
theorem r_12_tellsBy_102 : RG M_X12_tellsBy 102 12 105 105 := ⟨522, _, by decide +kernel, rfl, by decide, wd_f12_522, rfl, rfl⟩
theorem r_12_tellsBy_105 : RW M_X12_tellsBy 105 .iaload 106 1 := ⟨by decide +kernel, rfl⟩
theorem r_12_tellsBy_106 : RC M_X12_tellsBy 106 1 107 := ⟨⟨by decide, by decide⟩, Or.inl ⟨by decide +kernel, rfl⟩⟩
theorem r_12_tellsBy_107 : RKv M_X12_tellsBy M_X12_goesBy 107 2 12 110 := ⟨528, by decide +kernel, wd_m12_528, ok_M_X12_goesBy, wd_s12_goesBy, rfl⟩
theorem r_12_tellsBy_110 : RW M_X12_tellsBy 110 .iadd 111 1 := ⟨by decide +kernel, rfl⟩
theorem r_12_tellsBy_111 : RW M_X12_tellsBy 111 .ireturn 112 1 := ⟨by decide +kernel, rfl⟩
theorem r_12_act_0 : RA M_X12_act 0 0 1 := Or.inl ⟨0, by decide +kernel, rfl, rfl⟩
theorem r_12_act_1 : RL M_X12_act 1 1 2 := Or.inl ⟨1, by decide +kernel, rfl, rfl⟩
theorem r_12_act_2 : RKv M_X12_act M_X12_isPerson 2 1 12 5 := ⟨278, by decide +kernel, wd_m12_278, ok_M_X12_isPerson, wd_s12_isPerson, rfl⟩
theorem r_12_act_5 : RB M_X12_act 5 (.ifCond .eq) 17 8 := ⟨12, by decide +kernel, rfl, rfl⟩
theorem r_12_act_17 : RC M_X12_act 17 (-2000000000) 20 := ⟨⟨by decide, by decide⟩, Or.inr (Or.inr (Or.inr (Or.inr ⟨289, by decide +kernel, wd_c12_289, rfl⟩)))⟩
theorem r_12_act_20 : RW M_X12_act 20 .ireturn 21 1 := ⟨by decide +kernel, rfl⟩
theorem r_12_act_8 : RL M_X12_act 8 2 9 := Or.inl ⟨2, by decide +kernel, rfl, rfl⟩
theorem r_12_act_9 : RC M_X12_act 9 0 10 := ⟨⟨by decide, by decide⟩, Or.inl ⟨by decide +kernel, rfl⟩⟩
theorem r_12_act_10 : RC M_X12_act 10 2 11 := ⟨⟨by decide, by decide⟩, Or.inl ⟨by decide +kernel, rfl⟩⟩
theorem r_12_act_11 : RKs M_X12_act M_X12_within 11 3 14 := ⟨240, by decide +kernel, Or.inl wd_m12_240, ok_M_X12_within, rfl⟩
theorem r_12_act_14 : RB M_X12_act 14 (.ifCond .ne) 21 17 := ⟨7, by decide +kernel, rfl, rfl⟩
theorem r_12_act_21 : RA M_X12_act 21 0 22 := Or.inl ⟨0, by decide +kernel, rfl, rfl⟩
theorem r_12_act_22 : RC M_X12_act 22 0 23 := ⟨⟨by decide, by decide⟩, Or.inl ⟨by decide +kernel, rfl⟩⟩
theorem r_12_act_23 : RP M_X12_act 23 12 104 26 := ⟨516, _, by decide +kernel, rfl, by decide, wd_f12_516, rfl, Or.inl rfl, rfl⟩
theorem r_12_act_26 : RA M_X12_act 26 0 27 := Or.inl ⟨0, by decide +kernel, rfl, rfl⟩
theorem r_12_act_27 : RL M_X12_act 27 1 28 := Or.inl ⟨1, by decide +kernel, rfl, rfl⟩
theorem r_12_act_28 : RP M_X12_act 28 12 105 31 := ⟨522, _, by decide +kernel, rfl, by decide, wd_f12_522, rfl, Or.inl rfl, rfl⟩
theorem r_12_act_31 : RL M_X12_act 31 2 32 := Or.inl ⟨2, by decide +kernel, rfl, rfl⟩
theorem r_12_act_32 : RB M_X12_act 32 (.ifCond .ne) 49 35 := ⟨17, by decide +kernel, rfl, rfl⟩
theorem r_12_act_49 : RL M_X12_act 49 2 50 := Or.inl ⟨2, by decide +kernel, rfl, rfl⟩
theorem r_12_act_50 : RC M_X12_act 50 1 51 := ⟨⟨by decide, by decide⟩, Or.inl ⟨by decide +kernel, rfl⟩⟩
theorem r_12_act_51 : RB M_X12_act 51 (.if_icmp .ne) 68 54 := ⟨17, by decide +kernel, rfl, rfl⟩
theorem r_12_act_68 : RA M_X12_act 68 0 69 := Or.inl ⟨0, by decide +kernel, rfl, rfl⟩
theorem r_12_act_69 : RA M_X12_act 69 0 70 := Or.inl ⟨0, by decide +kernel, rfl, rfl⟩
theorem r_12_act_70 : RG M_X12_act 70 12 6 73 := ⟨22, _, by decide +kernel, rfl, by decide, wd_f12_22, rfl, rfl⟩
theorem r_12_act_73 : RL M_X12_act 73 1 74 := Or.inl ⟨1, by decide +kernel, rfl, rfl⟩
theorem r_12_act_74 : RW M_X12_act 74 .iaload 75 1 := ⟨by decide +kernel, rfl⟩
theorem r_12_act_75 : RL M_X12_act 75 3 76 := Or.inl ⟨3, by decide +kernel, rfl, rfl⟩
theorem r_12_act_76 : RKv M_X12_act M_X12_tellsBy 76 2 12 79 := ⟨534, by decide +kernel, wd_m12_534, ok_M_X12_tellsBy, wd_s12_tellsBy, rfl⟩
theorem r_12_act_79 : RW M_X12_act 79 .ireturn 80 1 := ⟨by decide +kernel, rfl⟩
theorem r_12_act_54 : RA M_X12_act 54 0 55 := Or.inl ⟨0, by decide +kernel, rfl, rfl⟩
theorem r_12_act_55 : RA M_X12_act 55 0 56 := Or.inl ⟨0, by decide +kernel, rfl, rfl⟩
theorem r_12_act_56 : RG M_X12_act 56 12 6 59 := ⟨22, _, by decide +kernel, rfl, by decide, wd_f12_22, rfl, rfl⟩
theorem r_12_act_59 : RL M_X12_act 59 1 60 := Or.inl ⟨1, by decide +kernel, rfl, rfl⟩
theorem r_12_act_60 : RW M_X12_act 60 .iaload 61 1 := ⟨by decide +kernel, rfl⟩
theorem r_12_act_61 : RL M_X12_act 61 3 62 := Or.inl ⟨3, by decide +kernel, rfl, rfl⟩
theorem r_12_act_62 : RKv M_X12_act M_X12_ranksBy 62 2 12 65 := ⟨531, by decide +kernel, wd_m12_531, ok_M_X12_ranksBy, wd_s12_ranksBy, rfl⟩
theorem r_12_act_65 : RB M_X12_act 65 .goto 79 68 := ⟨14, by decide +kernel, rfl, rfl⟩
theorem r_12_act_35 : RA M_X12_act 35 0 36 := Or.inl ⟨0, by decide +kernel, rfl, rfl⟩
theorem r_12_act_36 : RA M_X12_act 36 0 37 := Or.inl ⟨0, by decide +kernel, rfl, rfl⟩
theorem r_12_act_37 : RG M_X12_act 37 12 6 40 := ⟨22, _, by decide +kernel, rfl, by decide, wd_f12_22, rfl, rfl⟩
theorem r_12_act_40 : RL M_X12_act 40 1 41 := Or.inl ⟨1, by decide +kernel, rfl, rfl⟩
theorem r_12_act_41 : RW M_X12_act 41 .iaload 42 1 := ⟨by decide +kernel, rfl⟩
theorem r_12_act_42 : RL M_X12_act 42 3 43 := Or.inl ⟨3, by decide +kernel, rfl, rfl⟩
theorem r_12_act_43 : RKv M_X12_act M_X12_goesBy 43 2 12 46 := ⟨528, by decide +kernel, wd_m12_528, ok_M_X12_goesBy, wd_s12_goesBy, rfl⟩
theorem r_12_act_46 : RB M_X12_act 46 .goto 79 49 := ⟨33, by decide +kernel, rfl, rfl⟩
theorem r_11_act_0 : RA M_X11_act 0 0 1 := Or.inl ⟨0, by decide +kernel, rfl, rfl⟩
theorem r_11_act_1 : RG M_X11_act 1 11 1 4 := ⟨21, _, by decide +kernel, rfl, by decide, wd_f11_21, rfl, rfl⟩
theorem r_11_act_4 : RL M_X11_act 4 1 5 := Or.inl ⟨1, by decide +kernel, rfl, rfl⟩
theorem r_11_act_5 : RL M_X11_act 5 2 6 := Or.inl ⟨2, by decide +kernel, rfl, rfl⟩
theorem r_11_act_6 : RL M_X11_act 6 3 7 := Or.inl ⟨3, by decide +kernel, rfl, rfl⟩
theorem r_11_act_7 : RKv M_X11_act M_X1_actOf 7 3 1 10 := ⟨231, by decide +kernel, wd_m11_231, ok_M_X1_actOf, wd_s1_actOf, rfl⟩
theorem r_11_act_10 : RW M_X11_act 10 .ireturn 11 1 := ⟨by decide +kernel, rfl⟩
set_option maxRecDepth 10000 in
theorem sp_X1_noteBody {l : Launch} {w : Wo} {d : Nat} {G : PH} {P : Option PV → PH → Prop} {b : Int} (hbk : 0 ≤ (gF G 1 0 17)) (hP : ∀ A c, (A, c) = nt24 (gA G 40 0, (gF G 1 0 17)) b → P none (sF (uA G 40 0 (A)) 1 0 17 (c))) : PW l w M_X1_noteBody (d + 0) 0 [some (vR 1 (0)), some (vI (b))] [] G P := by
  refine pw_aload r_1_noteBody_0 rfl ?_
  refine pw_getI r_1_noteBody_1 fs_1_17 (by decide) ?_
  refine pw_const r_1_noteBody_4 ?_
  refine pw_icmp_ge r_1_noteBody_6 (fun h06 => ?_) (fun h06 => ?_)
  · skip
    refine pw_vret r_1_noteBody_29 rfl (Nat.le_refl _) ⟨rfl, ?_⟩
    first | (have hh := hP _ _ (nt_t (s := (gA G 40 0, (gF G 1 0 17))) (show (gF G 1 0 17) < 24 by omega)).symm; rw [← sA_eq] at hh; exact hh) | (have hh := hP (gA G 40 0) (gF G 1 0 17) (nt_f (s := (gA G 40 0, (gF G 1 0 17))) (show ¬ (gF G 1 0 17) < 24 by omega)).symm; rw [uA_self, sF_self] at hh; exact hh)
  · skip
    refine pw_aload r_1_noteBody_9 rfl ?_
    refine pw_getR r_1_noteBody_10 fs_1_16 (by decide) ?_
    refine pw_aload r_1_noteBody_13 rfl ?_
    refine pw_getI r_1_noteBody_14 fs_1_17 (by decide) ?_
    refine pw_iload r_1_noteBody_17 rfl ?_
    refine pw_iast r_1_noteBody_18 sh40 (by omega) (by omega) ?_
    refine pw_aload r_1_noteBody_19 rfl ?_
    refine pw_dup r_1_noteBody_20 rfl ?_
    refine pw_getIv (v := gF G 1 (0) 17) r_1_noteBody_21 fs_1_17 (by decide) (by first | rfl | simp [gF_sF, gF_sA, gF_uA, gF_sD, gA_sF, gA_sA, gA_uA, gA_sD, gD_sF, gD_sA, gD_uA, gD_sD]) ?_
    refine pw_const r_1_noteBody_24 ?_
    refine pw_iadd r_1_noteBody_25 (by omega) ?_
    refine pw_putI r_1_noteBody_26 (by decide +kernel) fs_1_17 (by decide) ?_
    refine pw_vret r_1_noteBody_29 rfl (Nat.le_refl _) ⟨rfl, ?_⟩
    first | (have hh := hP _ _ (nt_t (s := (gA G 40 0, (gF G 1 0 17))) (show (gF G 1 0 17) < 24 by omega)).symm; rw [← sA_eq] at hh; exact hh) | (have hh := hP (gA G 40 0) (gF G 1 0 17) (nt_f (s := (gA G 40 0, (gF G 1 0 17))) (show ¬ (gF G 1 0 17) < 24 by omega)).symm; rw [uA_self, sF_self] at hh; exact hh)
set_option maxRecDepth 10000 in
theorem sp_X12_begins {l : Launch} {w : Wo} {d : Nat} {G : PH} {P : Option PV → PH → Prop} {b : Int} (hbk : 0 ≤ (gF G 12 0 104)) (hrb : (gF G 12 0 104) < 1000000) (hP : ∀ A c, (A, c) = ntM (gA G 269 0, (gF G 12 0 104)) b → P none (sF (uA G 269 0 (A)) 12 0 104 (c))) : PW l w M_X12_begins (d + 0) 0 [some (vR 12 (0)), some (vI (b))] [] G P := by
  refine pw_aload r_12_begins_0 rfl ?_
  refine pw_getI r_12_begins_1 fs_12_104 (by decide) ?_
  refine pw_const r_12_begins_4 ?_
  refine pw_icmp_ge r_12_begins_6 (fun h06 => ?_) (fun h06 => ?_)
  · skip
    refine pw_aload r_12_begins_19 rfl ?_
    refine pw_dup r_12_begins_20 rfl ?_
    refine pw_getI r_12_begins_21 fs_12_104 (by decide) ?_
    refine pw_const r_12_begins_24 ?_
    refine pw_iadd r_12_begins_25 (by omega) ?_
    refine pw_putI r_12_begins_26 (by decide +kernel) fs_12_104 (by decide) ?_
    refine pw_vret r_12_begins_29 rfl (Nat.le_refl _) ⟨rfl, ?_⟩
    first | (have hh := hP _ _ (ntM_t (s := (gA G 269 0, (gF G 12 0 104))) (show (gF G 12 0 104) < 24 by omega)).symm; rw [← sA_eq] at hh; exact hh) | (have hh := hP (gA G 269 0) ((gF G 12 0 104) + 1) (ntM_f (s := (gA G 269 0, (gF G 12 0 104))) (show ¬ (gF G 12 0 104) < 24 by omega)).symm; rw [uA_self] at hh; exact hh)
  · skip
    refine pw_aload r_12_begins_9 rfl ?_
    refine pw_getR r_12_begins_10 fs_12_103 (by decide) ?_
    refine pw_aload r_12_begins_13 rfl ?_
    refine pw_getI r_12_begins_14 fs_12_104 (by decide) ?_
    refine pw_iload r_12_begins_17 rfl ?_
    refine pw_iast r_12_begins_18 sh269 (by omega) (by omega) ?_
    refine pw_aload r_12_begins_19 rfl ?_
    refine pw_dup r_12_begins_20 rfl ?_
    refine pw_getIv (v := gF G 12 (0) 104) r_12_begins_21 fs_12_104 (by decide) (by first | rfl | simp [gF_sF, gF_sA, gF_uA, gF_sD, gA_sF, gA_sA, gA_uA, gA_sD, gD_sF, gD_sA, gD_uA, gD_sD]) ?_
    refine pw_const r_12_begins_24 ?_
    refine pw_iadd r_12_begins_25 (by omega) ?_
    refine pw_putI r_12_begins_26 (by decide +kernel) fs_12_104 (by decide) ?_
    refine pw_vret r_12_begins_29 rfl (Nat.le_refl _) ⟨rfl, ?_⟩
    first | (have hh := hP _ _ (ntM_t (s := (gA G 269 0, (gF G 12 0 104))) (show (gF G 12 0 104) < 24 by omega)).symm; rw [← sA_eq] at hh; exact hh) | (have hh := hP (gA G 269 0) ((gF G 12 0 104) + 1) (ntM_f (s := (gA G 269 0, (gF G 12 0 104))) (show ¬ (gF G 12 0 104) < 24 by omega)).symm; rw [uA_self] at hh; exact hh)
set_option maxRecDepth 10000 in
theorem sp_X3_run {l : Launch} {w : Wo} : ∀ (n0 : Nat), ∀ {d : Nat} {G : PH} {P : Option PV → PH → Prop} {p a f x e : Int}, (a * 4 + lvl f < (n0 : Int)) → (0 ≤ a ∧ a ≤ 2) → (0 ≤ f ∧ f ≤ 7) → (0 ≤ e ∧ e + (n0 : Int) ≤ 20) → (1 ≤ (gF G 3 (p) 1) ∧ (gF G 3 (p) 1) ≤ 7) → (0 ≤ (gF G 1 0 17)) → (∀ A c, (A, c) = List.foldl nt24 (gA G 40 0, (gF G 1 0 17)) (evR (gF G 3 p 3) (gF G 3 p 6) (gF G 3 p 0) (gF G 3 p 1) a f x).2 → P (some (vI ((evR (gF G 3 p 3) (gF G 3 p 6) (gF G 3 p 0) (gF G 3 p 1) a f x).1))) (sF (uA G 40 0 (A)) 1 0 17 (c))) → PW l w M_X3_run (d + 2 * n0 + 1) 0 [some (vR 3 (p)), some (vI (a)), some (vI (f)), some (vI (x)), some (vI (e)), some (vR 1 (0)), none, none] [] G P := by
  intro n0
  induction n0 with
  | zero => intro d G P p a f x e hM ha; have h9 := lvl_is f; exfalso; omega
  | succ nR ihR =>
    intro d G P p a f x e hM ha hf he hkd hbk hP
    rw [show d + 2 * (nR + 1) + 1 = d + 2 * nR + 3 by omega]
    have L52 : ∀ (z : Int), (hz : 0 ≤ z ∧ z ≤ 7) → (hown : z = 0 ∨ boF (z * 3 + a) ≠ 0) → (hev : evR (gF G 3 p 3) (gF G 3 p 6) (gF G 3 p 0) (gF G 3 p 1) a z x = evR (gF G 3 p 3) (gF G 3 p 6) (gF G 3 p 0) (gF G 3 p 1) a f x) → (hl : lvl z ≤ lvl f) → PW l w M_X3_run (d + 2 * nR + 3) 52 [some (vR 3 (p)), some (vI (a)), some (vI (f)), some (vI (x)), some (vI (e)), some (vR 1 (0)), some (vI (z)), none] [] G P := by
      intro z hz hown hev hl
      have hb := bo_all ha.1 ha.2 hz.1 hz.2
      have hab := ab_is hz.1 (show z < 8 by omega)
      refine pw_iload r_3_run_52 rfl ?_
      refine pw_const r_3_run_54 ?_
      refine pw_icmp_gt r_3_run_56 (fun h56 => absurd h56 (by omega)) (fun h56 => ?_)
      refine pw_iload r_3_run_59 rfl ?_
      refine pw_if_lt r_3_run_61 (fun h61 => absurd h61 (by omega)) (fun h61 => ?_)
      refine pw_iload r_3_run_64 rfl ?_
      refine pw_const r_3_run_66 ?_
      refine pw_icmp_lt r_3_run_68 (fun h68 => ?_) (fun h68 => absurd h68 (by omega))
      refine pw_gs191 r_3_run_73 ?_
      refine pw_iload r_3_run_76 rfl ?_
      refine pw_const r_3_run_78 ?_
      refine pw_imul r_3_run_79 (by omega) ?_
      refine pw_iload r_3_run_80 rfl ?_
      refine pw_iadd r_3_run_81 (by omega) ?_
      refine pw_tab191 r_3_run_82 (by omega) (by omega) ?_
      refine pw_istore (ls' := [some (vR 3 (p)), some (vI (a)), some (vI (f)), some (vI (x)), some (vI (e)), some (vR 1 (0)), some (vI (z)), some (vI (boF (((z * 3) + a))))]) r_3_run_83 rfl rfl ?_
      refine pw_aload r_3_run_85 rfl ?_
      refine pw_iload r_3_run_87 rfl ?_
      refine pw_callV (av := [vI (boF (((z * 3) + a)))]) (st := []) (ls0 := [some (vR 1 (0)), some (vI (boF (((z * 3) + a))))]) r_3_run_89 rfl rfl rfl (Nat.le_refl _) ?_
      refine sp_X1_noteBody (hbk) ?_
      intro A c hn
      have hcp : 0 ≤ c := nt_pos2 (L := [boF (z * 3 + a)]) hn hbk
      refine pw_aload r_3_run_92 rfl ?_
      refine pw_iload r_3_run_93 rfl ?_
      refine pw_gs190 r_3_run_95 ?_
      refine pw_iload r_3_run_98 rfl ?_
      refine pw_tab190 r_3_run_100 (by omega) (by omega) ?_
      refine pw_iload r_3_run_101 rfl ?_
      refine pw_iload r_3_run_102 rfl ?_
      refine pw_const r_3_run_104 ?_
      refine pw_iadd r_3_run_105 (by omega) ?_
      refine pw_aload r_3_run_106 rfl ?_
      refine pw_callV (av := [vI (boF (((z * 3) + a))), vI (abF (z)), vI (x), vI ((e + 1)), vR 1 (0)]) (st := []) (ls0 := [some (vR 3 (p)), some (vI (boF (((z * 3) + a)))), some (vI (abF (z))), some (vI (x)), some (vI ((e + 1))), some (vR 1 (0))]) r_3_run_108 rfl rfl rfl (Nat.le_refl _) ?_
      refine pw_iload r_3_runBody_0 rfl ?_
      refine pw_lswitch r_3_runBody_1 ?_
      refine pw_swt (fun h01 => ?_) (fun h01_10 => ?_)
      · skip
        obtain ⟨ha9, hz9⟩ : a = 0 ∧ z = 0 := by omega
        have hbb := h01
        rw [hbb] at hn
        rw [← hev, ha9, hz9, ev_10] at hP
        refine pw_iload r_3_runBody_108 rfl ?_
        refine pw_aload r_3_runBody_109 rfl ?_
        refine pw_getIv (v := gF G 3 (p) 3) r_3_runBody_110 fs_3_3 (by decide) (by first | rfl | simp [gF_sF, gF_sA, gF_uA, gF_sD, gA_sF, gA_sA, gA_uA, gA_sD, gD_sF, gD_sA, gD_uA, gD_sD]) ?_
        refine pw_iaddW r_3_runBody_113 ?_
        refine pw_iret r_3_runBody_114 rfl (Nat.le_refl _) ⟨rfl, ?_⟩
        refine pw_iret r_3_run_111 rfl (Nat.le_refl _) ⟨rfl, ?_⟩
        first | exact hP A c hn | (exfalso; omega)
      refine pw_swt (fun h01 => ?_) (fun h01_11 => ?_)
      · skip
        obtain ⟨ha9, hz9⟩ : a = 1 ∧ z = 0 := by omega
        have hbb := h01
        rw [hbb] at hn
        rw [← hev, ha9, hz9, ev_11] at hP
        refine pw_aload r_3_runBody_115 rfl ?_
        refine pw_const r_3_runBody_116 ?_
        refine pw_aload r_3_runBody_117 rfl ?_
        refine pw_getIv (v := gF G 3 (p) 1) r_3_runBody_118 fs_3_1 (by decide) (by first | rfl | simp [gF_sF, gF_sA, gF_uA, gF_sD, gA_sF, gA_sA, gA_uA, gA_sD, gD_sF, gD_sA, gD_uA, gD_sD]) ?_
        refine pw_iload r_3_runBody_121 rfl ?_
        refine pw_iload r_3_runBody_122 rfl ?_
        refine pw_aload r_3_runBody_124 rfl ?_
        refine pw_callV (av := [vI (0), vI (gF G 3 (p) 1), vI (x), vI ((e + 1)), vR 1 (0)]) (st := []) (ls0 := [some (vR 3 (p)), some (vI (0)), some (vI (gF G 3 (p) 1)), some (vI (x)), some (vI ((e + 1))), some (vR 1 (0)), none, none]) r_3_runBody_126 rfl rfl rfl (Nat.le_refl _) ?_
        refine ihR (d := d) (by have q1 := lvl_is f; have q2 := lvl_is z; have q3 := lvl_is (gF G 3 (p) 1); have q4 := lvl_is (abF z); omega) (by omega) (by omega) (by omega) (hkd) (show 0 ≤ c by omega) ?_
        intro A1 c1 hr1
        refine pw_top (b := (evR (gF G 3 (p) 3) (gF G 3 (p) 6) (gF G 3 (p) 0) (gF G 3 (p) 1) 0 (gF G 3 (p) 1) x).1) (by first | rfl | simp (disch := decide) [gF_sF, gF_sA, gF_uA, gF_sD, gA_sF, gA_sA, gA_uA, gA_sD, gD_sF, gD_sA, gD_uA, gD_sD]) ?_
        replace hr1 : (A1, c1) = List.foldl nt24 (A, c) _ := hr1
        refine pw_const r_3_runBody_129 ?_
        refine pw_imulW r_3_runBody_130 ?_
        refine pw_iret r_3_runBody_131 rfl (Nat.le_refl _) ⟨rfl, ?_⟩
        refine pw_iret r_3_run_111 rfl (Nat.le_refl _) ⟨rfl, ?_⟩
        try rw [hab9] at hr1 ⊢
        rw [hn] at hr1
        rw [tpt_abs]
        exact hP A1 c1 hr1
      refine pw_swt (fun h01 => ?_) (fun h01_12 => ?_)
      · skip
        obtain ⟨ha9, hz9⟩ : a = 2 ∧ z = 0 := by omega
        have hbb := h01
        rw [hbb] at hn
        rw [← hev, ha9, hz9, ev_12] at hP
        refine pw_aload r_3_runBody_132 rfl ?_
        refine pw_const r_3_runBody_133 ?_
        refine pw_aload r_3_runBody_134 rfl ?_
        refine pw_getIv (v := gF G 3 (p) 1) r_3_runBody_135 fs_3_1 (by decide) (by first | rfl | simp [gF_sF, gF_sA, gF_uA, gF_sD, gA_sF, gA_sA, gA_uA, gA_sD, gD_sF, gD_sA, gD_uA, gD_sD]) ?_
        refine pw_iload r_3_runBody_138 rfl ?_
        refine pw_iload r_3_runBody_139 rfl ?_
        refine pw_aload r_3_runBody_141 rfl ?_
        refine pw_callV (av := [vI (1), vI (gF G 3 (p) 1), vI (x), vI ((e + 1)), vR 1 (0)]) (st := []) (ls0 := [some (vR 3 (p)), some (vI (1)), some (vI (gF G 3 (p) 1)), some (vI (x)), some (vI ((e + 1))), some (vR 1 (0)), none, none]) r_3_runBody_143 rfl rfl rfl (Nat.le_refl _) ?_
        refine ihR (d := d) (by have q1 := lvl_is f; have q2 := lvl_is z; have q3 := lvl_is (gF G 3 (p) 1); have q4 := lvl_is (abF z); omega) (by omega) (by omega) (by omega) (hkd) (show 0 ≤ c by omega) ?_
        intro A1 c1 hr1
        refine pw_top (b := (evR (gF G 3 (p) 3) (gF G 3 (p) 6) (gF G 3 (p) 0) (gF G 3 (p) 1) 1 (gF G 3 (p) 1) x).1) (by first | rfl | simp (disch := decide) [gF_sF, gF_sA, gF_uA, gF_sD, gA_sF, gA_sA, gA_uA, gA_sD, gD_sF, gD_sA, gD_uA, gD_sD]) ?_
        replace hr1 : (A1, c1) = List.foldl nt24 (A, c) _ := hr1
        refine pw_aload r_3_runBody_146 rfl ?_
        refine pw_getIv (v := gF G 3 (p) 0) r_3_runBody_147 fs_3_0 (by decide) (by first | rfl | simp [gF_sF, gF_sA, gF_uA, gF_sD, gA_sF, gA_sA, gA_uA, gA_sD, gD_sF, gD_sA, gD_uA, gD_sD]) ?_
        refine pw_ixor r_3_runBody_150 ?_
        refine pw_iret r_3_runBody_151 rfl (Nat.le_refl _) ⟨rfl, ?_⟩
        refine pw_iret r_3_run_111 rfl (Nat.le_refl _) ⟨rfl, ?_⟩
        try rw [hab9] at hr1 ⊢
        rw [hn] at hr1
        rw [tpt_abs]
        exact hP A1 c1 hr1
      refine pw_swt (fun h01 => ?_) (fun h01_20 => ?_)
      · skip
        obtain ⟨ha9, hz9⟩ : a = 0 ∧ z = 1 := by omega
        have hbb := h01
        rw [hbb] at hn
        rw [← hev, ha9, hz9, ev_20] at hP
        have hab9 : abF z = 0 := by omega
        refine pw_aload r_3_runBody_152 rfl ?_
        refine pw_const r_3_runBody_153 ?_
        refine pw_iload r_3_runBody_154 rfl ?_
        refine pw_iload r_3_runBody_155 rfl ?_
        refine pw_iload r_3_runBody_156 rfl ?_
        refine pw_aload r_3_runBody_158 rfl ?_
        refine pw_callV (av := [vI (0), vI (abF (z)), vI (x), vI ((e + 1)), vR 1 (0)]) (st := []) (ls0 := [some (vR 3 (p)), some (vI (0)), some (vI (abF (z))), some (vI (x)), some (vI ((e + 1))), some (vR 1 (0)), none, none]) r_3_runBody_160 rfl rfl rfl (Nat.le_refl _) ?_
        refine ihR (d := d) (by have q1 := lvl_is f; have q2 := lvl_is z; have q3 := lvl_is (gF G 3 (p) 1); have q4 := lvl_is (abF z); omega) (by omega) (by omega) (by omega) (hkd) (show 0 ≤ c by omega) ?_
        intro A1 c1 hr1
        refine pw_top (b := (evR (gF G 3 (p) 3) (gF G 3 (p) 6) (gF G 3 (p) 0) (gF G 3 (p) 1) 0 (abF (z)) x).1) (by first | rfl | simp (disch := decide) [gF_sF, gF_sA, gF_uA, gF_sD, gA_sF, gA_sA, gA_uA, gA_sD, gD_sF, gD_sA, gD_uA, gD_sD]) ?_
        replace hr1 : (A1, c1) = List.foldl nt24 (A, c) _ := hr1
        refine pw_const r_3_runBody_163 ?_
        refine pw_isubW r_3_runBody_164 ?_
        refine pw_iret r_3_runBody_165 rfl (Nat.le_refl _) ⟨rfl, ?_⟩
        refine pw_iret r_3_run_111 rfl (Nat.le_refl _) ⟨rfl, ?_⟩
        try rw [hab9] at hr1 ⊢
        rw [hn] at hr1
        rw [tpt_abs]
        exact hP A1 c1 hr1
      refine pw_swt (fun h01 => ?_) (fun h01_30 => ?_)
      · skip
        obtain ⟨ha9, hz9⟩ : a = 1 ∧ z = 2 := by omega
        have hbb := h01
        rw [hbb] at hn
        rw [← hev, ha9, hz9, ev_30] at hP
        have hab9 : abF z = 1 := by omega
        refine pw_aload r_3_runBody_166 rfl ?_
        refine pw_const r_3_runBody_167 ?_
        refine pw_iload r_3_runBody_168 rfl ?_
        refine pw_iload r_3_runBody_169 rfl ?_
        refine pw_iload r_3_runBody_170 rfl ?_
        refine pw_aload r_3_runBody_172 rfl ?_
        refine pw_callV (av := [vI (1), vI (abF (z)), vI (x), vI ((e + 1)), vR 1 (0)]) (st := []) (ls0 := [some (vR 3 (p)), some (vI (1)), some (vI (abF (z))), some (vI (x)), some (vI ((e + 1))), some (vR 1 (0)), none, none]) r_3_runBody_174 rfl rfl rfl (Nat.le_refl _) ?_
        refine ihR (d := d) (by have q1 := lvl_is f; have q2 := lvl_is z; have q3 := lvl_is (gF G 3 (p) 1); have q4 := lvl_is (abF z); omega) (by omega) (by omega) (by omega) (hkd) (show 0 ≤ c by omega) ?_
        intro A1 c1 hr1
        refine pw_top (b := (evR (gF G 3 (p) 3) (gF G 3 (p) 6) (gF G 3 (p) 0) (gF G 3 (p) 1) 1 (abF (z)) x).1) (by first | rfl | simp (disch := decide) [gF_sF, gF_sA, gF_uA, gF_sD, gA_sF, gA_sA, gA_uA, gA_sD, gD_sF, gD_sA, gD_uA, gD_sD]) ?_
        replace hr1 : (A1, c1) = List.foldl nt24 (A, c) _ := hr1
        refine pw_aload r_3_runBody_177 rfl ?_
        refine pw_getIv (v := gF G 3 (p) 6) r_3_runBody_178 fs_3_6 (by decide) (by first | rfl | simp [gF_sF, gF_sA, gF_uA, gF_sD, gA_sF, gA_sA, gA_uA, gA_sD, gD_sF, gD_sA, gD_uA, gD_sD]) ?_
        refine pw_iaddW r_3_runBody_181 ?_
        refine pw_iret r_3_runBody_182 rfl (Nat.le_refl _) ⟨rfl, ?_⟩
        refine pw_iret r_3_run_111 rfl (Nat.le_refl _) ⟨rfl, ?_⟩
        try rw [hab9] at hr1 ⊢
        rw [hn] at hr1
        rw [tpt_abs]
        exact hP A1 c1 hr1
      refine pw_swt (fun h01 => ?_) (fun h01_40 => ?_)
      · skip
        obtain ⟨ha9, hz9⟩ : a = 2 ∧ z = 3 := by omega
        have hbb := h01
        rw [hbb] at hn
        rw [← hev, ha9, hz9, ev_40] at hP
        have hab9 : abF z = 1 := by omega
        refine pw_aload r_3_runBody_183 rfl ?_
        refine pw_const r_3_runBody_184 ?_
        refine pw_iload r_3_runBody_185 rfl ?_
        refine pw_iload r_3_runBody_186 rfl ?_
        refine pw_iload r_3_runBody_187 rfl ?_
        refine pw_aload r_3_runBody_189 rfl ?_
        refine pw_callV (av := [vI (2), vI (abF (z)), vI (x), vI ((e + 1)), vR 1 (0)]) (st := []) (ls0 := [some (vR 3 (p)), some (vI (2)), some (vI (abF (z))), some (vI (x)), some (vI ((e + 1))), some (vR 1 (0)), none, none]) r_3_runBody_191 rfl rfl rfl (Nat.le_refl _) ?_
        refine ihR (d := d) (by have q1 := lvl_is f; have q2 := lvl_is z; have q3 := lvl_is (gF G 3 (p) 1); have q4 := lvl_is (abF z); omega) (by omega) (by omega) (by omega) (hkd) (show 0 ≤ c by omega) ?_
        intro A1 c1 hr1
        refine pw_top (b := (evR (gF G 3 (p) 3) (gF G 3 (p) 6) (gF G 3 (p) 0) (gF G 3 (p) 1) 2 (abF (z)) x).1) (by first | rfl | simp (disch := decide) [gF_sF, gF_sA, gF_uA, gF_sD, gA_sF, gA_sA, gA_uA, gA_sD, gD_sF, gD_sA, gD_uA, gD_sD]) ?_
        replace hr1 : (A1, c1) = List.foldl nt24 (A, c) _ := hr1
        refine pw_inegW r_3_runBody_194 ?_
        refine pw_iret r_3_runBody_195 rfl (Nat.le_refl _) ⟨rfl, ?_⟩
        refine pw_iret r_3_run_111 rfl (Nat.le_refl _) ⟨rfl, ?_⟩
        try rw [hab9] at hr1 ⊢
        rw [hn] at hr1
        rw [tpt_abs]
        exact hP A1 c1 hr1
      refine pw_swt (fun h01 => ?_) (fun h01_50 => ?_)
      · skip
        obtain ⟨ha9, hz9⟩ : a = 0 ∧ z = 4 := by omega
        have hbb := h01
        rw [hbb] at hn
        rw [← hev, ha9, hz9, ev_50] at hP
        have hab9 : abF z = 1 := by omega
        refine pw_aload r_3_runBody_196 rfl ?_
        refine pw_const r_3_runBody_197 ?_
        refine pw_iload r_3_runBody_198 rfl ?_
        refine pw_iload r_3_runBody_199 rfl ?_
        refine pw_const r_3_runBody_200 ?_
        refine pw_iaddW r_3_runBody_201 ?_
        refine pw_iload r_3_runBody_202 rfl ?_
        refine pw_aload r_3_runBody_204 rfl ?_
        refine pw_callV (av := [vI (0), vI (abF (z)), vI (wr (x + 3)), vI ((e + 1)), vR 1 (0)]) (st := []) (ls0 := [some (vR 3 (p)), some (vI (0)), some (vI (abF (z))), some (vI (wr (x + 3))), some (vI ((e + 1))), some (vR 1 (0)), none, none]) r_3_runBody_206 rfl rfl rfl (Nat.le_refl _) ?_
        refine ihR (d := d) (by have q1 := lvl_is f; have q2 := lvl_is z; have q3 := lvl_is (gF G 3 (p) 1); have q4 := lvl_is (abF z); omega) (by omega) (by omega) (by omega) (hkd) (show 0 ≤ c by omega) ?_
        intro A1 c1 hr1
        refine pw_top (b := (evR (gF G 3 (p) 3) (gF G 3 (p) 6) (gF G 3 (p) 0) (gF G 3 (p) 1) 0 (abF (z)) (wr (x + 3))).1) (by first | rfl | simp (disch := decide) [gF_sF, gF_sA, gF_uA, gF_sD, gA_sF, gA_sA, gA_uA, gA_sD, gD_sF, gD_sA, gD_uA, gD_sD]) ?_
        replace hr1 : (A1, c1) = List.foldl nt24 (A, c) _ := hr1
        refine pw_iret r_3_runBody_209 rfl (Nat.le_refl _) ⟨rfl, ?_⟩
        refine pw_iret r_3_run_111 rfl (Nat.le_refl _) ⟨rfl, ?_⟩
        try rw [hab9] at hr1 ⊢
        rw [hn] at hr1
        rw [tpt_abs]
        exact hP A1 c1 hr1
      refine pw_swt (fun h01 => ?_) (fun h01_51 => ?_)
      · skip
        obtain ⟨ha9, hz9⟩ : a = 2 ∧ z = 4 := by omega
        have hbb := h01
        rw [hbb] at hn
        rw [← hev, ha9, hz9, ev_51] at hP
        have hab9 : abF z = 1 := by omega
        refine pw_aload r_3_runBody_210 rfl ?_
        refine pw_const r_3_runBody_211 ?_
        refine pw_iload r_3_runBody_212 rfl ?_
        refine pw_iload r_3_runBody_213 rfl ?_
        refine pw_iload r_3_runBody_214 rfl ?_
        refine pw_aload r_3_runBody_216 rfl ?_
        refine pw_callV (av := [vI (2), vI (abF (z)), vI (x), vI ((e + 1)), vR 1 (0)]) (st := []) (ls0 := [some (vR 3 (p)), some (vI (2)), some (vI (abF (z))), some (vI (x)), some (vI ((e + 1))), some (vR 1 (0)), none, none]) r_3_runBody_218 rfl rfl rfl (Nat.le_refl _) ?_
        refine ihR (d := d) (by have q1 := lvl_is f; have q2 := lvl_is z; have q3 := lvl_is (gF G 3 (p) 1); have q4 := lvl_is (abF z); omega) (by omega) (by omega) (by omega) (hkd) (show 0 ≤ c by omega) ?_
        intro A1 c1 hr1
        refine pw_top (b := (evR (gF G 3 (p) 3) (gF G 3 (p) 6) (gF G 3 (p) 0) (gF G 3 (p) 1) 2 (abF (z)) x).1) (by first | rfl | simp (disch := decide) [gF_sF, gF_sA, gF_uA, gF_sD, gA_sF, gA_sA, gA_uA, gA_sD, gD_sF, gD_sA, gD_uA, gD_sD]) ?_
        replace hr1 : (A1, c1) = List.foldl nt24 (A, c) _ := hr1
        have hcp1 : 0 ≤ c1 := nt_pos2 hr1 hcp
        refine pw_aload r_3_runBody_221 rfl ?_
        refine pw_const r_3_runBody_222 ?_
        refine pw_aload r_3_runBody_223 rfl ?_
        refine pw_getIv (v := gF G 3 (p) 1) r_3_runBody_224 fs_3_1 (by decide) (by first | rfl | simp [gF_sF, gF_sA, gF_uA, gF_sD, gA_sF, gA_sA, gA_uA, gA_sD, gD_sF, gD_sA, gD_uA, gD_sD]) ?_
        refine pw_const r_3_runBody_227 ?_
        refine pw_iload r_3_runBody_228 rfl ?_
        refine pw_aload r_3_runBody_230 rfl ?_
        refine pw_callV (av := [vI (0), vI (gF G 3 (p) 1), vI (1), vI ((e + 1)), vR 1 (0)]) (st := [vI ((evR (gF G 3 (p) 3) (gF G 3 (p) 6) (gF G 3 (p) 0) (gF G 3 (p) 1) 2 (abF (z)) x).1)]) (ls0 := [some (vR 3 (p)), some (vI (0)), some (vI (gF G 3 (p) 1)), some (vI (1)), some (vI ((e + 1))), some (vR 1 (0)), none, none]) r_3_runBody_232 rfl rfl rfl (Nat.le_refl _) ?_
        refine ihR (d := d) (by have q1 := lvl_is f; have q2 := lvl_is z; have q3 := lvl_is (gF G 3 (p) 1); have q4 := lvl_is (abF z); omega) (by omega) (by omega) (by omega) (hkd) (show 0 ≤ c1 by omega) ?_
        intro A2 c2 hr2
        refine pw_top (b := (evR (gF G 3 (p) 3) (gF G 3 (p) 6) (gF G 3 (p) 0) (gF G 3 (p) 1) 0 (gF G 3 (p) 1) 1).1) (by first | rfl | simp (disch := decide) [gF_sF, gF_sA, gF_uA, gF_sD, gA_sF, gA_sA, gA_uA, gA_sD, gD_sF, gD_sA, gD_uA, gD_sD]) ?_
        replace hr2 : (A2, c2) = List.foldl nt24 (A1, c1) _ := hr2
        refine pw_iaddW r_3_runBody_235 ?_
        refine pw_iret r_3_runBody_236 rfl (Nat.le_refl _) ⟨rfl, ?_⟩
        refine pw_iret r_3_run_111 rfl (Nat.le_refl _) ⟨rfl, ?_⟩
        try rw [hab9] at hr1 ⊢
        try rw [hab9] at hr2 ⊢
        rw [hn] at hr1
        rw [hr1, ← List.foldl_append] at hr2
        rw [tpt_abs, tpt_abs]
        exact hP A2 c2 hr2
      refine pw_swt (fun h01 => ?_) (fun h01_60 => ?_)
      · skip
        obtain ⟨ha9, hz9⟩ : a = 1 ∧ z = 5 := by omega
        have hbb := h01
        rw [hbb] at hn
        rw [← hev, ha9, hz9, ev_60] at hP
        have hab9 : abF z = 1 := by omega
        refine pw_aload r_3_runBody_237 rfl ?_
        refine pw_const r_3_runBody_238 ?_
        refine pw_aload r_3_runBody_239 rfl ?_
        refine pw_getIv (v := gF G 3 (p) 1) r_3_runBody_240 fs_3_1 (by decide) (by first | rfl | simp [gF_sF, gF_sA, gF_uA, gF_sD, gA_sF, gA_sA, gA_uA, gA_sD, gD_sF, gD_sA, gD_uA, gD_sD]) ?_
        refine pw_iload r_3_runBody_243 rfl ?_
        refine pw_iload r_3_runBody_244 rfl ?_
        refine pw_aload r_3_runBody_246 rfl ?_
        refine pw_callV (av := [vI (0), vI (gF G 3 (p) 1), vI (x), vI ((e + 1)), vR 1 (0)]) (st := []) (ls0 := [some (vR 3 (p)), some (vI (0)), some (vI (gF G 3 (p) 1)), some (vI (x)), some (vI ((e + 1))), some (vR 1 (0)), none, none]) r_3_runBody_248 rfl rfl rfl (Nat.le_refl _) ?_
        refine ihR (d := d) (by have q1 := lvl_is f; have q2 := lvl_is z; have q3 := lvl_is (gF G 3 (p) 1); have q4 := lvl_is (abF z); omega) (by omega) (by omega) (by omega) (hkd) (show 0 ≤ c by omega) ?_
        intro A1 c1 hr1
        refine pw_top (b := (evR (gF G 3 (p) 3) (gF G 3 (p) 6) (gF G 3 (p) 0) (gF G 3 (p) 1) 0 (gF G 3 (p) 1) x).1) (by first | rfl | simp (disch := decide) [gF_sF, gF_sA, gF_uA, gF_sD, gA_sF, gA_sA, gA_uA, gA_sD, gD_sF, gD_sA, gD_uA, gD_sD]) ?_
        replace hr1 : (A1, c1) = List.foldl nt24 (A, c) _ := hr1
        have hcp1 : 0 ≤ c1 := nt_pos2 hr1 hcp
        refine pw_aload r_3_runBody_251 rfl ?_
        refine pw_const r_3_runBody_252 ?_
        refine pw_iload r_3_runBody_253 rfl ?_
        refine pw_iload r_3_runBody_254 rfl ?_
        refine pw_iload r_3_runBody_255 rfl ?_
        refine pw_aload r_3_runBody_257 rfl ?_
        refine pw_callV (av := [vI (1), vI (abF (z)), vI (x), vI ((e + 1)), vR 1 (0)]) (st := [vI ((evR (gF G 3 (p) 3) (gF G 3 (p) 6) (gF G 3 (p) 0) (gF G 3 (p) 1) 0 (gF G 3 (p) 1) x).1)]) (ls0 := [some (vR 3 (p)), some (vI (1)), some (vI (abF (z))), some (vI (x)), some (vI ((e + 1))), some (vR 1 (0)), none, none]) r_3_runBody_259 rfl rfl rfl (Nat.le_refl _) ?_
        refine ihR (d := d) (by have q1 := lvl_is f; have q2 := lvl_is z; have q3 := lvl_is (gF G 3 (p) 1); have q4 := lvl_is (abF z); omega) (by omega) (by omega) (by omega) (hkd) (show 0 ≤ c1 by omega) ?_
        intro A2 c2 hr2
        refine pw_top (b := (evR (gF G 3 (p) 3) (gF G 3 (p) 6) (gF G 3 (p) 0) (gF G 3 (p) 1) 1 (abF (z)) x).1) (by first | rfl | simp (disch := decide) [gF_sF, gF_sA, gF_uA, gF_sD, gA_sF, gA_sA, gA_uA, gA_sD, gD_sF, gD_sA, gD_uA, gD_sD]) ?_
        replace hr2 : (A2, c2) = List.foldl nt24 (A1, c1) _ := hr2
        refine pw_isubW r_3_runBody_262 ?_
        refine pw_iret r_3_runBody_263 rfl (Nat.le_refl _) ⟨rfl, ?_⟩
        refine pw_iret r_3_run_111 rfl (Nat.le_refl _) ⟨rfl, ?_⟩
        try rw [hab9] at hr1 ⊢
        try rw [hab9] at hr2 ⊢
        rw [hn] at hr1
        rw [hr1, ← List.foldl_append] at hr2
        rw [tpt_abs, tpt_abs]
        exact hP A2 c2 hr2
      refine pw_swt (fun h01 => ?_) (fun h01_70 => ?_)
      · skip
        obtain ⟨ha9, hz9⟩ : a = 0 ∧ z = 6 := by omega
        have hbb := h01
        rw [hbb] at hn
        rw [← hev, ha9, hz9, ev_70] at hP
        have hab9 : abF z = 1 := by omega
        refine pw_aload r_3_runBody_264 rfl ?_
        refine pw_const r_3_runBody_265 ?_
        refine pw_iload r_3_runBody_266 rfl ?_
        refine pw_iload r_3_runBody_267 rfl ?_
        refine pw_iload r_3_runBody_268 rfl ?_
        refine pw_aload r_3_runBody_270 rfl ?_
        refine pw_callV (av := [vI (0), vI (abF (z)), vI (x), vI ((e + 1)), vR 1 (0)]) (st := []) (ls0 := [some (vR 3 (p)), some (vI (0)), some (vI (abF (z))), some (vI (x)), some (vI ((e + 1))), some (vR 1 (0)), none, none]) r_3_runBody_272 rfl rfl rfl (Nat.le_refl _) ?_
        refine ihR (d := d) (by have q1 := lvl_is f; have q2 := lvl_is z; have q3 := lvl_is (gF G 3 (p) 1); have q4 := lvl_is (abF z); omega) (by omega) (by omega) (by omega) (hkd) (show 0 ≤ c by omega) ?_
        intro A1 c1 hr1
        refine pw_top (b := (evR (gF G 3 (p) 3) (gF G 3 (p) 6) (gF G 3 (p) 0) (gF G 3 (p) 1) 0 (abF (z)) x).1) (by first | rfl | simp (disch := decide) [gF_sF, gF_sA, gF_uA, gF_sD, gA_sF, gA_sA, gA_uA, gA_sD, gD_sF, gD_sA, gD_uA, gD_sD]) ?_
        replace hr1 : (A1, c1) = List.foldl nt24 (A, c) _ := hr1
        refine pw_const r_3_runBody_275 ?_
        refine pw_imulW r_3_runBody_276 ?_
        refine pw_iret r_3_runBody_277 rfl (Nat.le_refl _) ⟨rfl, ?_⟩
        refine pw_iret r_3_run_111 rfl (Nat.le_refl _) ⟨rfl, ?_⟩
        try rw [hab9] at hr1 ⊢
        rw [hn] at hr1
        rw [tpt_abs]
        exact hP A1 c1 hr1
      refine pw_swt (fun h01 => ?_) (fun h01_80 => ?_)
      · skip
        obtain ⟨ha9, hz9⟩ : a = 1 ∧ z = 7 := by omega
        have hbb := h01
        rw [hbb] at hn
        rw [← hev, ha9, hz9, ev_80] at hP
        have hab9 : abF z = 4 := by omega
        refine pw_aload r_3_runBody_278 rfl ?_
        refine pw_const r_3_runBody_279 ?_
        refine pw_iload r_3_runBody_280 rfl ?_
        refine pw_iload r_3_runBody_281 rfl ?_
        refine pw_iload r_3_runBody_282 rfl ?_
        refine pw_aload r_3_runBody_284 rfl ?_
        refine pw_callV (av := [vI (1), vI (abF (z)), vI (x), vI ((e + 1)), vR 1 (0)]) (st := []) (ls0 := [some (vR 3 (p)), some (vI (1)), some (vI (abF (z))), some (vI (x)), some (vI ((e + 1))), some (vR 1 (0)), none, none]) r_3_runBody_286 rfl rfl rfl (Nat.le_refl _) ?_
        refine ihR (d := d) (by have q1 := lvl_is f; have q2 := lvl_is z; have q3 := lvl_is (gF G 3 (p) 1); have q4 := lvl_is (abF z); omega) (by omega) (by omega) (by omega) (hkd) (show 0 ≤ c by omega) ?_
        intro A1 c1 hr1
        refine pw_top (b := (evR (gF G 3 (p) 3) (gF G 3 (p) 6) (gF G 3 (p) 0) (gF G 3 (p) 1) 1 (abF (z)) x).1) (by first | rfl | simp (disch := decide) [gF_sF, gF_sA, gF_uA, gF_sD, gA_sF, gA_sA, gA_uA, gA_sD, gD_sF, gD_sA, gD_uA, gD_sD]) ?_
        replace hr1 : (A1, c1) = List.foldl nt24 (A, c) _ := hr1
        have hcp1 : 0 ≤ c1 := nt_pos2 hr1 hcp
        refine pw_aload r_3_runBody_289 rfl ?_
        refine pw_const r_3_runBody_290 ?_
        refine pw_aload r_3_runBody_291 rfl ?_
        refine pw_getIv (v := gF G 3 (p) 1) r_3_runBody_292 fs_3_1 (by decide) (by first | rfl | simp [gF_sF, gF_sA, gF_uA, gF_sD, gA_sF, gA_sA, gA_uA, gA_sD, gD_sF, gD_sA, gD_uA, gD_sD]) ?_
        refine pw_iload r_3_runBody_295 rfl ?_
        refine pw_iload r_3_runBody_296 rfl ?_
        refine pw_aload r_3_runBody_298 rfl ?_
        refine pw_callV (av := [vI (0), vI (gF G 3 (p) 1), vI (x), vI ((e + 1)), vR 1 (0)]) (st := [vI ((evR (gF G 3 (p) 3) (gF G 3 (p) 6) (gF G 3 (p) 0) (gF G 3 (p) 1) 1 (abF (z)) x).1)]) (ls0 := [some (vR 3 (p)), some (vI (0)), some (vI (gF G 3 (p) 1)), some (vI (x)), some (vI ((e + 1))), some (vR 1 (0)), none, none]) r_3_runBody_300 rfl rfl rfl (Nat.le_refl _) ?_
        refine ihR (d := d) (by have q1 := lvl_is f; have q2 := lvl_is z; have q3 := lvl_is (gF G 3 (p) 1); have q4 := lvl_is (abF z); omega) (by omega) (by omega) (by omega) (hkd) (show 0 ≤ c1 by omega) ?_
        intro A2 c2 hr2
        refine pw_top (b := (evR (gF G 3 (p) 3) (gF G 3 (p) 6) (gF G 3 (p) 0) (gF G 3 (p) 1) 0 (gF G 3 (p) 1) x).1) (by first | rfl | simp (disch := decide) [gF_sF, gF_sA, gF_uA, gF_sD, gA_sF, gA_sA, gA_uA, gA_sD, gD_sF, gD_sA, gD_uA, gD_sD]) ?_
        replace hr2 : (A2, c2) = List.foldl nt24 (A1, c1) _ := hr2
        refine pw_ixor r_3_runBody_303 ?_
        refine pw_iret r_3_runBody_304 rfl (Nat.le_refl _) ⟨rfl, ?_⟩
        refine pw_iret r_3_run_111 rfl (Nat.le_refl _) ⟨rfl, ?_⟩
        try rw [hab9] at hr1 ⊢
        try rw [hab9] at hr2 ⊢
        rw [hn] at hr1
        rw [hr1, ← List.foldl_append] at hr2
        rw [tpt_abs, tpt_abs]
        exact hP A2 c2 hr2
      refine pw_swt (fun h01 => ?_) (fun h01_81 => ?_)
      · skip
        obtain ⟨ha9, hz9⟩ : a = 0 ∧ z = 7 := by omega
        have hbb := h01
        rw [hbb] at hn
        rw [← hev, ha9, hz9, ev_81] at hP
        have hab9 : abF z = 4 := by omega
        refine pw_aload r_3_runBody_305 rfl ?_
        refine pw_const r_3_runBody_306 ?_
        refine pw_iload r_3_runBody_307 rfl ?_
        refine pw_iload r_3_runBody_308 rfl ?_
        refine pw_iload r_3_runBody_309 rfl ?_
        refine pw_aload r_3_runBody_311 rfl ?_
        refine pw_callV (av := [vI (0), vI (abF (z)), vI (x), vI ((e + 1)), vR 1 (0)]) (st := []) (ls0 := [some (vR 3 (p)), some (vI (0)), some (vI (abF (z))), some (vI (x)), some (vI ((e + 1))), some (vR 1 (0)), none, none]) r_3_runBody_313 rfl rfl rfl (Nat.le_refl _) ?_
        refine ihR (d := d) (by have q1 := lvl_is f; have q2 := lvl_is z; have q3 := lvl_is (gF G 3 (p) 1); have q4 := lvl_is (abF z); omega) (by omega) (by omega) (by omega) (hkd) (show 0 ≤ c by omega) ?_
        intro A1 c1 hr1
        refine pw_top (b := (evR (gF G 3 (p) 3) (gF G 3 (p) 6) (gF G 3 (p) 0) (gF G 3 (p) 1) 0 (abF (z)) x).1) (by first | rfl | simp (disch := decide) [gF_sF, gF_sA, gF_uA, gF_sD, gA_sF, gA_sA, gA_uA, gA_sD, gD_sF, gD_sA, gD_uA, gD_sD]) ?_
        replace hr1 : (A1, c1) = List.foldl nt24 (A, c) _ := hr1
        refine pw_const r_3_runBody_316 ?_
        refine pw_iaddW r_3_runBody_317 ?_
        refine pw_iret r_3_runBody_318 rfl (Nat.le_refl _) ⟨rfl, ?_⟩
        refine pw_iret r_3_run_111 rfl (Nat.le_refl _) ⟨rfl, ?_⟩
        try rw [hab9] at hr1 ⊢
        rw [hn] at hr1
        rw [tpt_abs]
        exact hP A1 c1 hr1
      refine pw_swd ?_
      refine pw_const r_3_runBody_319 ?_
      refine pw_iret r_3_runBody_320 rfl (Nat.le_refl _) ⟨rfl, ?_⟩
      refine pw_iret r_3_run_111 rfl (Nat.le_refl _) ⟨rfl, ?_⟩
      first | exact hP A c hn | (exfalso; omega)
    refine pw_iload r_3_run_0 rfl ?_
    refine pw_istore (ls' := [some (vR 3 (p)), some (vI (a)), some (vI (f)), some (vI (x)), some (vI (e)), some (vR 1 (0)), some (vI (f)), none]) r_3_run_1 rfl rfl ?_
    refine pw_const r_3_run_3 ?_
    refine pw_istore (ls' := [some (vR 3 (p)), some (vI (a)), some (vI (f)), some (vI (x)), some (vI (e)), some (vR 1 (0)), some (vI (f)), some (vI (0))]) r_3_run_4 rfl rfl ?_
    have L6 : ∀ (nF : Nat) (z i : Int), (hz : 0 ≤ z ∧ z ≤ 7) → (hi : 0 ≤ i ∧ i + lvl z ≤ 3) → (hev : evR (gF G 3 p 3) (gF G 3 p 6) (gF G 3 p 0) (gF G 3 p 1) a z x = evR (gF G 3 p 3) (gF G 3 p 6) (gF G 3 p 0) (gF G 3 p 1) a f x) → (hl : lvl z ≤ lvl f) → (8 - i).toNat < nF → PW l w M_X3_run (d + 2 * nR + 3) 6 [some (vR 3 (p)), some (vI (a)), some (vI (f)), some (vI (x)), some (vI (e)), some (vR 1 (0)), some (vI (z)), some (vI (i))] [] G P := by
      intro nF
      induction nF with
      | zero => intro _ _ _ _ _ _ hM; exact absurd hM (Nat.not_lt_zero _)
      | succ nF ih6 =>
        intro z i hz hi hev hl hM6
        have hlz := lvl_is z
        have hb := bo_all ha.1 ha.2 hz.1 hz.2
        have hab := ab_is hz.1 (show z < 8 by omega)
        have hla := lvl_is (abF z)
        refine pw_iload r_3_run_6 rfl ?_
        refine pw_const r_3_run_8 ?_
        refine pw_icmp_ge r_3_run_10 (fun h10 => ?_) (fun h10 => ?_)
        · skip
          refine pw_weakL (ls' := [some (vR 3 (p)), some (vI (a)), some (vI (f)), some (vI (x)), some (vI (e)), some (vR 1 (0)), some (vI (z)), none]) (⟨rfl, ⟨rfl, ⟨rfl, ⟨rfl, ⟨rfl, ⟨rfl, ⟨rfl, trivial⟩⟩⟩⟩⟩⟩⟩) ?_
          exact L52 (z) (by first | assumption | omega) (by first | assumption | omega) (hev) (by omega) 
        · skip
          refine pw_iload r_3_run_13 rfl ?_
          refine pw_if_le r_3_run_15 (fun h15 => ?_) (fun h15 => ?_)
          · skip
            refine pw_weakL (ls' := [some (vR 3 (p)), some (vI (a)), some (vI (f)), some (vI (x)), some (vI (e)), some (vR 1 (0)), some (vI (z)), none]) (⟨rfl, ⟨rfl, ⟨rfl, ⟨rfl, ⟨rfl, ⟨rfl, ⟨rfl, trivial⟩⟩⟩⟩⟩⟩⟩) ?_
            exact L52 (z) (by first | assumption | omega) (by first | assumption | omega) (hev) (by omega) 
          · skip
            refine pw_iload r_3_run_18 rfl ?_
            refine pw_const r_3_run_20 ?_
            refine pw_icmp_ge r_3_run_22 (fun h22 => ?_) (fun h22 => ?_)
            · skip
              refine pw_weakL (ls' := [some (vR 3 (p)), some (vI (a)), some (vI (f)), some (vI (x)), some (vI (e)), some (vR 1 (0)), some (vI (z)), none]) (⟨rfl, ⟨rfl, ⟨rfl, ⟨rfl, ⟨rfl, ⟨rfl, ⟨rfl, trivial⟩⟩⟩⟩⟩⟩⟩) ?_
              exact L52 (z) (by first | assumption | omega) (by first | assumption | omega) (hev) (by omega) 
            · skip
              refine pw_gs191 r_3_run_25 ?_
              refine pw_iload r_3_run_28 rfl ?_
              refine pw_const r_3_run_30 ?_
              refine pw_imul r_3_run_31 (by omega) ?_
              refine pw_iload r_3_run_32 rfl ?_
              refine pw_iadd r_3_run_33 (by omega) ?_
              refine pw_tab191 r_3_run_34 (by omega) (by omega) ?_
              refine pw_if_ne r_3_run_35 (fun h35 => ?_) (fun h35 => ?_)
              · skip
                refine pw_weakL (ls' := [some (vR 3 (p)), some (vI (a)), some (vI (f)), some (vI (x)), some (vI (e)), some (vR 1 (0)), some (vI (z)), none]) (⟨rfl, ⟨rfl, ⟨rfl, ⟨rfl, ⟨rfl, ⟨rfl, ⟨rfl, trivial⟩⟩⟩⟩⟩⟩⟩) ?_
                exact L52 (z) (by first | assumption | omega) (by first | assumption | omega) (hev) (by omega) 
              · skip
                refine pw_gs190 r_3_run_38 ?_
                refine pw_iload r_3_run_41 rfl ?_
                refine pw_tab190 r_3_run_43 (by omega) (by omega) ?_
                refine pw_istore (ls' := [some (vR 3 (p)), some (vI (a)), some (vI (f)), some (vI (x)), some (vI (e)), some (vR 1 (0)), some (vI (abF (z))), some (vI (i))]) r_3_run_44 rfl rfl ?_
                refine pw_iinc (b := 0) (ls' := [some (vR 3 (p)), some (vI (a)), some (vI (f)), some (vI (x)), some (vI (e)), some (vR 1 (0)), some (vI (abF (z))), some (vI ((i + 1)))]) r_3_run_46 rfl rfl (by omega) rfl ?_
                refine pw_goto r_3_run_49 ?_
                exact ih6 (abF (z)) ((i + 1)) (by omega) (by omega) ((ev_up ha.1 ha.2 hz.1 hz.2 (by omega)).trans hev) (by omega) (by omega)
    exact L6 _ (f) (0) (by omega) (by have := lvl_is f; omega) (rfl) (by omega) (Nat.lt_succ_self _)
set_option maxRecDepth 10000 in
theorem sp_X3_perform {l : Launch} {w : Wo} {d : Nat} {G : PH} {P : Option PV → PH → Prop} {p a x : Int} (ha : 0 ≤ a ∧ a ≤ 2) (hkd : 1 ≤ (gF G 3 (p) 1) ∧ (gF G 3 (p) 1) ≤ 7) (hbk : 0 ≤ (gF G 1 0 17)) (hP : ∀ A c, (A, c) = List.foldl nt24 (gA G 40 0, (gF G 1 0 17)) (evR (gF G 3 p 3) (gF G 3 p 6) (gF G 3 p 0) (gF G 3 p 1) a (gF G 3 (p) 1) x).2 → P (some (vI ((evR (gF G 3 p 3) (gF G 3 p 6) (gF G 3 p 0) (gF G 3 p 1) a (gF G 3 (p) 1) x).1))) (sF (uA G 40 0 (A)) 1 0 17 (c))) : PW l w M_X3_perform (d + 26) 0 [some (vR 3 (p)), some (vI (a)), some (vI (x)), some (vR 1 (0))] [] G P := by
  refine pw_iload r_3_perform_0 rfl ?_
  refine pw_const r_3_perform_1 ?_
  refine pw_const r_3_perform_2 ?_
  refine pw_callS (av := [vI (a), vI (0), vI (2)]) (st := []) (ls0 := [some (vI (a)), some (vI (0)), some (vI (2))]) r_3_perform_3 rfl rfl rfl (Nat.le_refl _) ?_
  refine sp_X11_within  ?_
  refine pw_if_eqB r_3_perform_6 (fun h06 => absurd h06 (by omega)) (fun h06 => ?_)
  refine pw_aload r_3_perform_9 rfl ?_
  refine pw_iload r_3_perform_10 rfl ?_
  refine pw_aload r_3_perform_11 rfl ?_
  refine pw_getI r_3_perform_12 fs_3_1 (by decide) ?_
  refine pw_iload r_3_perform_15 rfl ?_
  refine pw_const r_3_perform_16 ?_
  refine pw_aload r_3_perform_17 rfl ?_
  refine pw_callV (av := [vI (a), vI (gF G 3 (p) 1), vI (x), vI (0), vR 1 (0)]) (st := []) (ls0 := [some (vR 3 (p)), some (vI (a)), some (vI (gF G 3 (p) 1)), some (vI (x)), some (vI (0)), some (vR 1 (0)), none, none]) r_3_perform_18 rfl rfl rfl (Nat.le_refl _) ?_
  refine sp_X3_run (12) (d := d) (by have q3 := lvl_is (gF G 3 (p) 1); omega) (ha) (by omega) (by omega) (hkd) (hbk) ?_
  intro A c hr
  refine pw_goto r_3_perform_21 ?_
  refine pw_iret r_3_perform_26 rfl (Nat.le_refl _) ⟨rfl, ?_⟩
  exact hP A c hr
set_option maxRecDepth 10000 in
theorem sp_X1_actOf {l : Launch} {w : Wo} {d : Nat} {G : PH} {P : Option PV → PH → Prop} {p a x : Int} (hp : ∀ i, 0 ≤ i → i < (gF G 1 0 1) → gD G 30 0 i = some (3, i)) (hsz : 0 ≤ (gF G 1 0 1) ∧ (gF G 1 0 1) ≤ 150) (hkd : (0 ≤ p ∧ p < (gF G 1 0 1)) → 1 ≤ (gF G 3 (p) 1) ∧ (gF G 3 (p) 1) ≤ 7) (h1 : ¬ ((0 ≤ p ∧ p < (gF G 1 0 1)) ∧ 0 ≤ a ∧ a ≤ 2) → P (some (vI (-2000000000))) G) (h2 : ((0 ≤ p ∧ p < (gF G 1 0 1)) ∧ 0 ≤ a ∧ a ≤ 2) → ∀ A c, (A, c) = List.foldl nt24 (gA G 40 0, 0) (evR (gF G 3 p 3) (gF G 3 p 6) (gF G 3 p 0) (gF G 3 p 1) a (gF G 3 (p) 1) x).2 → P (some (vI ((evR (gF G 3 p 3) (gF G 3 p 6) (gF G 3 p 0) (gF G 3 p 1) a (gF G 3 (p) 1) x).1))) (sF (uA (sF G 1 0 17 0) 40 0 (A)) 1 0 17 (c))) : PW l w M_X1_actOf (d + 27) 0 [some (vR 1 (0)), some (vI (p)), some (vI (a)), some (vI (x)), none] [] G P := by
  refine pw_aload r_1_actOf_0 rfl ?_
  refine pw_iload r_1_actOf_1 rfl ?_
  refine pw_callV (av := [vI (p)]) (st := []) (ls0 := [some (vR 1 (0)), some (vI (p))]) r_1_actOf_2 rfl rfl rfl (Nat.le_refl _) ?_
  refine sp_X1_get (by first | assumption | exact hp | omega) (by first | assumption | exact hsz | omega) ?_ ?_
  · skip
    intros
    refine pw_astore (ls' := [some (vR 1 (0)), some (vI (p)), some (vI (a)), some (vI (x)), some (vN)]) r_1_actOf_5 rfl rfl ?_
    refine pw_aload r_1_actOf_7 rfl ?_
    refine pw_ifnull r_1_actOf_9 (fun _ => ?_) (fun _ q => by cases q)
    refine pw_const r_1_actOf_21 ?_
    refine pw_iret r_1_actOf_23 rfl (Nat.le_refl _) ⟨rfl, ?_⟩
    first | exact h1 (by omega) | exact h2 (by omega) A c hr
  · skip
    intros
    refine pw_astore (ls' := [some (vR 1 (0)), some (vI (p)), some (vI (a)), some (vI (x)), some (vR 3 (p))]) r_1_actOf_5 rfl rfl ?_
    refine pw_aload r_1_actOf_7 rfl ?_
    refine pw_ifnull r_1_actOf_9 (fun q => by cases q) (fun _ _ => ?_)
    refine pw_iload r_1_actOf_12 rfl ?_
    refine pw_const r_1_actOf_13 ?_
    refine pw_const r_1_actOf_14 ?_
    refine pw_callS (av := [vI (a), vI (0), vI (2)]) (st := []) (ls0 := [some (vI (a)), some (vI (0)), some (vI (2))]) r_1_actOf_15 rfl rfl rfl (Nat.le_refl _) ?_
    refine sp_X11_within  ?_
    refine pw_if_neB r_1_actOf_18 (fun h18 => ?_) (fun h18 => ?_)
    · skip
      refine pw_aload r_1_actOf_24 rfl ?_
      refine pw_const r_1_actOf_25 ?_
      refine pw_putI r_1_actOf_26 (by decide +kernel) fs_1_17 (by decide) ?_
      refine pw_aload r_1_actOf_29 rfl ?_
      refine pw_iload r_1_actOf_31 rfl ?_
      refine pw_iload r_1_actOf_32 rfl ?_
      refine pw_aload r_1_actOf_33 rfl ?_
      refine pw_callV (av := [vI (a), vI (x), vR 1 (0)]) (st := []) (ls0 := [some (vR 3 (p)), some (vI (a)), some (vI (x)), some (vR 1 (0))]) r_1_actOf_34 rfl rfl rfl (Nat.le_refl _) ?_
      refine sp_X3_perform (by omega) (hkd (by omega)) (Int.le_refl 0) ?_
      intro A c hr
      refine pw_top (b := (evR (gF G 3 (p) 3) (gF G 3 (p) 6) (gF G 3 (p) 0) (gF G 3 (p) 1) a (gF G 3 (p) 1) x).1) (by first | rfl | simp (disch := decide) [gF_sF, gF_sA, gF_uA, gF_sD, gA_sF, gA_sA, gA_uA, gA_sD, gD_sF, gD_sA, gD_uA, gD_sD]) ?_
      refine pw_iret r_1_actOf_37 rfl (Nat.le_refl _) ⟨rfl, ?_⟩
      first | exact h1 (by omega) | exact h2 (by omega) A c hr
    · skip
      refine pw_const r_1_actOf_21 ?_
      refine pw_iret r_1_actOf_23 rfl (Nat.le_refl _) ⟨rfl, ?_⟩
      first | exact h1 (by omega) | exact h2 (by omega) A c hr
set_option maxRecDepth 10000 in
theorem sp_X12_goesBy {l : Launch} {w : Wo} : ∀ (n0 : Nat), ∀ {d : Nat} {G : PH} {P : Option PV → PH → Prop} {k x : Int}, (lvl k < (n0 : Int)) → (0 ≤ k ∧ k ≤ 7) → (0 ≤ (gF G 12 0 105) ∧ (gF G 12 0 105) < 150) → (0 ≤ (gF G 12 0 104)) → ((gF G 12 0 104) + 100 * (n0 : Int) < 100000) → (∀ A c, (A, c) = List.foldl ntM (gA G 269 0, (gF G 12 0 104)) (goK (gA G 208 0 ((gF G 12 0 105))) k x).2 → P (some (vI ((goK (gA G 208 0 ((gF G 12 0 105))) k x).1))) (sF (uA G 269 0 (A)) 12 0 104 (c))) → PW l w M_X12_goesBy (d + n0 + 1) 0 [some (vR 12 (0)), some (vI (k)), some (vI (x))] [] G P := by
  intro n0
  induction n0 with
  | zero => intro d G P k x hM; have h9 := lvl_is k; exfalso; omega
  | succ nR ihR =>
    intro d G P k x hM hk hru hbk hrb hP
    rw [show d + (nR + 1) + 1 = d + nR + 2 by omega]
    refine pw_iload r_12_goesBy_0 rfl ?_
    refine pw_tswitch r_12_goesBy_1 ?_
    refine pw_swt (fun h01 => ?_) (fun h01_0 => ?_)
    · skip
      rw [h01] at hP
      refine pw_aload r_12_goesBy_48 rfl ?_
      refine pw_const r_12_goesBy_49 ?_
      refine pw_callV (av := [vI (10)]) (st := []) (ls0 := [some (vR 12 (0)), some (vI (10))]) r_12_goesBy_51 rfl rfl rfl (Nat.le_refl _) ?_
      refine sp_X12_begins (hbk) (by omega) ?_
      intro A c hn
      have hcl := nt_len [10] (gA G 269 0, (gF G 12 0 104))
      rw [show List.foldl ntM (gA G 269 0, (gF G 12 0 104)) [10] = (A, c) from hn.symm] at hcl
      replace hcl : c = (gF G 12 0 104) + 1 := hcl
      refine pw_iload r_12_goesBy_54 rfl ?_
      refine pw_aload r_12_goesBy_55 rfl ?_
      refine pw_getR r_12_goesBy_56 fs_12_10 (by decide) ?_
      refine pw_aload r_12_goesBy_59 rfl ?_
      refine pw_getIv (v := gF G 12 (0) 105) r_12_goesBy_60 fs_12_105 (by decide) (by first | rfl | simp [gF_sF, gF_sA, gF_uA, gF_sD, gA_sF, gA_sA, gA_uA, gA_sD, gD_sF, gD_sA, gD_uA, gD_sD]) ?_
      refine pw_ialdv (v := gA G 208 (0) (gF G 12 (0) 105)) r_12_goesBy_63 sh208 (by omega) (by omega) (by first | rfl | simp [gF_sF, gF_sA, gF_uA, gF_sD, gA_sF, gA_sA, gA_uA, gA_sD, gD_sF, gD_sA, gD_uA, gD_sD]) ?_
      refine pw_iaddW r_12_goesBy_64 ?_
      refine pw_iret r_12_goesBy_65 rfl (Nat.le_refl _) ⟨rfl, ?_⟩
      exact hP A c hn
    refine pw_swt (fun h01 => ?_) (fun h01_1 => ?_)
    · skip
      rw [h01] at hP
      refine pw_aload r_12_goesBy_66 rfl ?_
      refine pw_const r_12_goesBy_67 ?_
      refine pw_callV (av := [vI (20)]) (st := []) (ls0 := [some (vR 12 (0)), some (vI (20))]) r_12_goesBy_69 rfl rfl rfl (Nat.le_refl _) ?_
      refine sp_X12_begins (hbk) (by omega) ?_
      intro A c hn
      have hcl := nt_len [20] (gA G 269 0, (gF G 12 0 104))
      rw [show List.foldl ntM (gA G 269 0, (gF G 12 0 104)) [20] = (A, c) from hn.symm] at hcl
      replace hcl : c = (gF G 12 0 104) + 1 := hcl
      refine pw_aload r_12_goesBy_72 rfl ?_
      refine pw_const r_12_goesBy_73 ?_
      refine pw_callS (av := [vI (1)]) (st := [vR 12 (0)]) (ls0 := [some (vI (1))]) r_12_goesBy_74 rfl rfl rfl (Nat.le_refl _) ?_
      refine sp_X12_above  ?_
      refine pw_top (b := 0) (by decide) ?_
      refine pw_iload r_12_goesBy_77 rfl ?_
      refine pw_callV (av := [vI (0), vI (x)]) (st := []) (ls0 := [some (vR 12 (0)), some (vI (0)), some (vI (x))]) r_12_goesBy_78 rfl rfl rfl (Nat.le_refl _) ?_
      refine ihR (d := d) (by have q1 := lvl_is k; have q2 := lvl_is 0; have q3 := lvl_is 1; have q4 := lvl_is 4; omega) (by omega) (hru) (show 0 ≤ c by omega) (show c + 100 * _ < _ by omega) ?_
      intro A1 c1 hr1
      refine pw_top (b := (goK (gA G 208 (0) ((gF G 12 (0) 105))) 0 x).1) (by first | rfl | simp (disch := decide) [gF_sF, gF_sA, gF_uA, gF_sD, gA_sF, gA_sA, gA_uA, gA_sD, gD_sF, gD_sA, gD_uA, gD_sD]) ?_
      replace hr1 : (A1, c1) = List.foldl ntM (A, c) _ := hr1
      have hclc1 : c ≤ c1 ∧ c1 ≤ c + 16 := by first | (have h9 := go_cnt hr1; omega) | (have h9 := rk_cnt hr1; omega) | (have h9 := tl_cnt hr1; omega)
      refine pw_const r_12_goesBy_81 ?_
      refine pw_isubW r_12_goesBy_82 ?_
      refine pw_iret r_12_goesBy_83 rfl (Nat.le_refl _) ⟨rfl, ?_⟩
      rw [hn] at hr1
      rw [tpm_abs]
      exact hP A1 c1 hr1
    refine pw_swt (fun h01 => ?_) (fun h01_2 => ?_)
    · skip
      refine pw_aload r_12_goesBy_140 rfl ?_
      refine pw_iload r_12_goesBy_141 rfl ?_
      refine pw_callS (av := [vI (k)]) (st := [vR 12 (0)]) (ls0 := [some (vI (k))]) r_12_goesBy_142 rfl rfl rfl (Nat.le_refl _) ?_
      refine sp_X12_above  ?_
      refine pw_top (b := 1) (by first | (rw [if_neg (by omega), if_pos (by omega)]) | (exfalso; omega)) ?_
      refine pw_iload r_12_goesBy_145 rfl ?_
      refine pw_callV (av := [vI (1), vI (x)]) (st := []) (ls0 := [some (vR 12 (0)), some (vI (1)), some (vI (x))]) r_12_goesBy_146 rfl rfl rfl (Nat.le_refl _) ?_
      refine ihR (d := d) (by have q1 := lvl_is k; have q2 := lvl_is 0; have q3 := lvl_is 1; have q4 := lvl_is 4; omega) (by omega) (hru) (hbk) (by omega) ?_
      intro A1 c1 hr1
      refine pw_iret r_12_goesBy_149 rfl (Nat.le_refl _) ⟨rfl, ?_⟩
      have hg1 : goK (gA G 208 0 ((gF G 12 0 105))) 1 x = goK (gA G 208 0 ((gF G 12 0 105))) k x := by unfold goK; rw [if_neg (by decide), if_neg (by decide), if_neg (by decide), if_neg (by decide), if_neg (by omega), if_neg (by omega), if_neg (by omega), if_neg (by omega)]
      rw [hg1] at hr1 ⊢
      exact hP A1 c1 hr1
    refine pw_swt (fun h01 => ?_) (fun h01_3 => ?_)
    · skip
      refine pw_aload r_12_goesBy_140 rfl ?_
      refine pw_iload r_12_goesBy_141 rfl ?_
      refine pw_callS (av := [vI (k)]) (st := [vR 12 (0)]) (ls0 := [some (vI (k))]) r_12_goesBy_142 rfl rfl rfl (Nat.le_refl _) ?_
      refine sp_X12_above  ?_
      refine pw_top (b := 1) (by first | (rw [if_neg (by omega), if_pos (by omega)]) | (exfalso; omega)) ?_
      refine pw_iload r_12_goesBy_145 rfl ?_
      refine pw_callV (av := [vI (1), vI (x)]) (st := []) (ls0 := [some (vR 12 (0)), some (vI (1)), some (vI (x))]) r_12_goesBy_146 rfl rfl rfl (Nat.le_refl _) ?_
      refine ihR (d := d) (by have q1 := lvl_is k; have q2 := lvl_is 0; have q3 := lvl_is 1; have q4 := lvl_is 4; omega) (by omega) (hru) (hbk) (by omega) ?_
      intro A1 c1 hr1
      refine pw_iret r_12_goesBy_149 rfl (Nat.le_refl _) ⟨rfl, ?_⟩
      have hg1 : goK (gA G 208 0 ((gF G 12 0 105))) 1 x = goK (gA G 208 0 ((gF G 12 0 105))) k x := by unfold goK; rw [if_neg (by decide), if_neg (by decide), if_neg (by decide), if_neg (by decide), if_neg (by omega), if_neg (by omega), if_neg (by omega), if_neg (by omega)]
      rw [hg1] at hr1 ⊢
      exact hP A1 c1 hr1
    refine pw_swt (fun h01 => ?_) (fun h01_4 => ?_)
    · skip
      rw [h01] at hP
      refine pw_aload r_12_goesBy_84 rfl ?_
      refine pw_const r_12_goesBy_85 ?_
      refine pw_callV (av := [vI (50)]) (st := []) (ls0 := [some (vR 12 (0)), some (vI (50))]) r_12_goesBy_87 rfl rfl rfl (Nat.le_refl _) ?_
      refine sp_X12_begins (hbk) (by omega) ?_
      intro A c hn
      have hcl := nt_len [50] (gA G 269 0, (gF G 12 0 104))
      rw [show List.foldl ntM (gA G 269 0, (gF G 12 0 104)) [50] = (A, c) from hn.symm] at hcl
      replace hcl : c = (gF G 12 0 104) + 1 := hcl
      refine pw_aload r_12_goesBy_90 rfl ?_
      refine pw_const r_12_goesBy_91 ?_
      refine pw_callS (av := [vI (4)]) (st := [vR 12 (0)]) (ls0 := [some (vI (4))]) r_12_goesBy_92 rfl rfl rfl (Nat.le_refl _) ?_
      refine sp_X12_above  ?_
      refine pw_top (b := 1) (by decide) ?_
      refine pw_iload r_12_goesBy_95 rfl ?_
      refine pw_const r_12_goesBy_96 ?_
      refine pw_iaddW r_12_goesBy_97 ?_
      refine pw_callV (av := [vI (1), vI (wr (x + 3))]) (st := []) (ls0 := [some (vR 12 (0)), some (vI (1)), some (vI (wr (x + 3)))]) r_12_goesBy_98 rfl rfl rfl (Nat.le_refl _) ?_
      refine ihR (d := d) (by have q1 := lvl_is k; have q2 := lvl_is 0; have q3 := lvl_is 1; have q4 := lvl_is 4; omega) (by omega) (hru) (show 0 ≤ c by omega) (show c + 100 * _ < _ by omega) ?_
      intro A1 c1 hr1
      refine pw_top (b := (goK (gA G 208 (0) ((gF G 12 (0) 105))) 1 (wr (x + 3))).1) (by first | rfl | simp (disch := decide) [gF_sF, gF_sA, gF_uA, gF_sD, gA_sF, gA_sA, gA_uA, gA_sD, gD_sF, gD_sA, gD_uA, gD_sD]) ?_
      replace hr1 : (A1, c1) = List.foldl ntM (A, c) _ := hr1
      have hclc1 : c ≤ c1 ∧ c1 ≤ c + 16 := by first | (have h9 := go_cnt hr1; omega) | (have h9 := rk_cnt hr1; omega) | (have h9 := tl_cnt hr1; omega)
      refine pw_iret r_12_goesBy_101 rfl (Nat.le_refl _) ⟨rfl, ?_⟩
      rw [hn] at hr1
      rw [tpm_abs]
      exact hP A1 c1 hr1
    refine pw_swt (fun h01 => ?_) (fun h01_5 => ?_)
    · skip
      refine pw_aload r_12_goesBy_140 rfl ?_
      refine pw_iload r_12_goesBy_141 rfl ?_
      refine pw_callS (av := [vI (k)]) (st := [vR 12 (0)]) (ls0 := [some (vI (k))]) r_12_goesBy_142 rfl rfl rfl (Nat.le_refl _) ?_
      refine sp_X12_above  ?_
      refine pw_top (b := 1) (by first | (rw [if_neg (by omega), if_pos (by omega)]) | (exfalso; omega)) ?_
      refine pw_iload r_12_goesBy_145 rfl ?_
      refine pw_callV (av := [vI (1), vI (x)]) (st := []) (ls0 := [some (vR 12 (0)), some (vI (1)), some (vI (x))]) r_12_goesBy_146 rfl rfl rfl (Nat.le_refl _) ?_
      refine ihR (d := d) (by have q1 := lvl_is k; have q2 := lvl_is 0; have q3 := lvl_is 1; have q4 := lvl_is 4; omega) (by omega) (hru) (hbk) (by omega) ?_
      intro A1 c1 hr1
      refine pw_iret r_12_goesBy_149 rfl (Nat.le_refl _) ⟨rfl, ?_⟩
      have hg1 : goK (gA G 208 0 ((gF G 12 0 105))) 1 x = goK (gA G 208 0 ((gF G 12 0 105))) k x := by unfold goK; rw [if_neg (by decide), if_neg (by decide), if_neg (by decide), if_neg (by decide), if_neg (by omega), if_neg (by omega), if_neg (by omega), if_neg (by omega)]
      rw [hg1] at hr1 ⊢
      exact hP A1 c1 hr1
    refine pw_swt (fun h01 => ?_) (fun h01_6 => ?_)
    · skip
      rw [h01] at hP
      refine pw_aload r_12_goesBy_102 rfl ?_
      refine pw_const r_12_goesBy_103 ?_
      refine pw_callV (av := [vI (70)]) (st := []) (ls0 := [some (vR 12 (0)), some (vI (70))]) r_12_goesBy_105 rfl rfl rfl (Nat.le_refl _) ?_
      refine sp_X12_begins (hbk) (by omega) ?_
      intro A c hn
      have hcl := nt_len [70] (gA G 269 0, (gF G 12 0 104))
      rw [show List.foldl ntM (gA G 269 0, (gF G 12 0 104)) [70] = (A, c) from hn.symm] at hcl
      replace hcl : c = (gF G 12 0 104) + 1 := hcl
      refine pw_aload r_12_goesBy_108 rfl ?_
      refine pw_const r_12_goesBy_109 ?_
      refine pw_callS (av := [vI (6)]) (st := [vR 12 (0)]) (ls0 := [some (vI (6))]) r_12_goesBy_111 rfl rfl rfl (Nat.le_refl _) ?_
      refine sp_X12_above  ?_
      refine pw_top (b := 1) (by decide) ?_
      refine pw_iload r_12_goesBy_114 rfl ?_
      refine pw_callV (av := [vI (1), vI (x)]) (st := []) (ls0 := [some (vR 12 (0)), some (vI (1)), some (vI (x))]) r_12_goesBy_115 rfl rfl rfl (Nat.le_refl _) ?_
      refine ihR (d := d) (by have q1 := lvl_is k; have q2 := lvl_is 0; have q3 := lvl_is 1; have q4 := lvl_is 4; omega) (by omega) (hru) (show 0 ≤ c by omega) (show c + 100 * _ < _ by omega) ?_
      intro A1 c1 hr1
      refine pw_top (b := (goK (gA G 208 (0) ((gF G 12 (0) 105))) 1 x).1) (by first | rfl | simp (disch := decide) [gF_sF, gF_sA, gF_uA, gF_sD, gA_sF, gA_sA, gA_uA, gA_sD, gD_sF, gD_sA, gD_uA, gD_sD]) ?_
      replace hr1 : (A1, c1) = List.foldl ntM (A, c) _ := hr1
      have hclc1 : c ≤ c1 ∧ c1 ≤ c + 16 := by first | (have h9 := go_cnt hr1; omega) | (have h9 := rk_cnt hr1; omega) | (have h9 := tl_cnt hr1; omega)
      refine pw_const r_12_goesBy_118 ?_
      refine pw_imulW r_12_goesBy_119 ?_
      refine pw_iret r_12_goesBy_120 rfl (Nat.le_refl _) ⟨rfl, ?_⟩
      rw [hn] at hr1
      rw [tpm_abs]
      exact hP A1 c1 hr1
    refine pw_swt (fun h01 => ?_) (fun h01_7 => ?_)
    · skip
      rw [h01] at hP
      refine pw_aload r_12_goesBy_121 rfl ?_
      refine pw_const r_12_goesBy_122 ?_
      refine pw_callV (av := [vI (81)]) (st := []) (ls0 := [some (vR 12 (0)), some (vI (81))]) r_12_goesBy_124 rfl rfl rfl (Nat.le_refl _) ?_
      refine sp_X12_begins (hbk) (by omega) ?_
      intro A c hn
      have hcl := nt_len [81] (gA G 269 0, (gF G 12 0 104))
      rw [show List.foldl ntM (gA G 269 0, (gF G 12 0 104)) [81] = (A, c) from hn.symm] at hcl
      replace hcl : c = (gF G 12 0 104) + 1 := hcl
      refine pw_aload r_12_goesBy_127 rfl ?_
      refine pw_const r_12_goesBy_128 ?_
      refine pw_callS (av := [vI (7)]) (st := [vR 12 (0)]) (ls0 := [some (vI (7))]) r_12_goesBy_130 rfl rfl rfl (Nat.le_refl _) ?_
      refine sp_X12_above  ?_
      refine pw_top (b := 4) (by decide) ?_
      refine pw_iload r_12_goesBy_133 rfl ?_
      refine pw_callV (av := [vI (4), vI (x)]) (st := []) (ls0 := [some (vR 12 (0)), some (vI (4)), some (vI (x))]) r_12_goesBy_134 rfl rfl rfl (Nat.le_refl _) ?_
      refine ihR (d := d) (by have q1 := lvl_is k; have q2 := lvl_is 0; have q3 := lvl_is 1; have q4 := lvl_is 4; omega) (by omega) (hru) (show 0 ≤ c by omega) (show c + 100 * _ < _ by omega) ?_
      intro A1 c1 hr1
      refine pw_top (b := (goK (gA G 208 (0) ((gF G 12 (0) 105))) 4 x).1) (by first | rfl | simp (disch := decide) [gF_sF, gF_sA, gF_uA, gF_sD, gA_sF, gA_sA, gA_uA, gA_sD, gD_sF, gD_sA, gD_uA, gD_sD]) ?_
      replace hr1 : (A1, c1) = List.foldl ntM (A, c) _ := hr1
      have hclc1 : c ≤ c1 ∧ c1 ≤ c + 16 := by first | (have h9 := go_cnt hr1; omega) | (have h9 := rk_cnt hr1; omega) | (have h9 := tl_cnt hr1; omega)
      refine pw_const r_12_goesBy_137 ?_
      refine pw_iaddW r_12_goesBy_138 ?_
      refine pw_iret r_12_goesBy_139 rfl (Nat.le_refl _) ⟨rfl, ?_⟩
      rw [hn] at hr1
      rw [tpm_abs]
      exact hP A1 c1 hr1
    refine pw_swd ?_
    refine pw_aload r_12_goesBy_140 rfl ?_
    refine pw_iload r_12_goesBy_141 rfl ?_
    refine pw_callS (av := [vI (k)]) (st := [vR 12 (0)]) (ls0 := [some (vI (k))]) r_12_goesBy_142 rfl rfl rfl (Nat.le_refl _) ?_
    refine sp_X12_above  ?_
    refine pw_top (b := 1) (by first | (rw [if_neg (by omega), if_pos (by omega)]) | (exfalso; omega)) ?_
    refine pw_iload r_12_goesBy_145 rfl ?_
    refine pw_callV (av := [vI (1), vI (x)]) (st := []) (ls0 := [some (vR 12 (0)), some (vI (1)), some (vI (x))]) r_12_goesBy_146 rfl rfl rfl (Nat.le_refl _) ?_
    refine ihR (d := d) (by have q1 := lvl_is k; have q2 := lvl_is 0; have q3 := lvl_is 1; have q4 := lvl_is 4; omega) (by omega) (hru) (hbk) (by omega) ?_
    intro A1 c1 hr1
    refine pw_iret r_12_goesBy_149 rfl (Nat.le_refl _) ⟨rfl, ?_⟩
    have hg1 : goK (gA G 208 0 ((gF G 12 0 105))) 1 x = goK (gA G 208 0 ((gF G 12 0 105))) k x := by unfold goK; rw [if_neg (by decide), if_neg (by decide), if_neg (by decide), if_neg (by decide), if_neg (by omega), if_neg (by omega), if_neg (by omega), if_neg (by omega)]
    rw [hg1] at hr1 ⊢
    exact hP A1 c1 hr1
set_option maxRecDepth 10000 in
theorem sp_X12_ranksBy {l : Launch} {w : Wo} : ∀ (n0 : Nat), ∀ {d : Nat} {G : PH} {P : Option PV → PH → Prop} {k x : Int}, (lvl k < (n0 : Int)) → (0 ≤ k ∧ k ≤ 7) → (0 ≤ (gF G 12 0 105) ∧ (gF G 12 0 105) < 150) → (0 ≤ (gF G 12 0 104)) → ((gF G 12 0 104) + 100 * (n0 : Int) < 50000) → (1 ≤ (gA G 204 0 ((gF G 12 0 105))) ∧ (gA G 204 0 ((gF G 12 0 105))) ≤ 7) → (∀ A c, (A, c) = List.foldl ntM (gA G 269 0, (gF G 12 0 104)) (rkK (gA G 208 0 ((gF G 12 0 105))) (gA G 210 0 ((gF G 12 0 105))) (gA G 204 0 ((gF G 12 0 105))) k x).2 → P (some (vI ((rkK (gA G 208 0 ((gF G 12 0 105))) (gA G 210 0 ((gF G 12 0 105))) (gA G 204 0 ((gF G 12 0 105))) k x).1))) (sF (uA G 269 0 (A)) 12 0 104 (c))) → PW l w M_X12_ranksBy (d + n0 + 5) 0 [some (vR 12 (0)), some (vI (k)), some (vI (x)), none] [] G P := by
  intro n0
  induction n0 with
  | zero => intro d G P k x hM; have h9 := lvl_is k; exfalso; omega
  | succ nR ihR =>
    intro d G P k x hM hk hru hbk hrb hkd hP
    rw [show d + (nR + 1) + 5 = d + nR + 6 by omega]
    refine pw_const r_12_ranksBy_0 ?_
    refine pw_istore (ls' := [some (vR 12 (0)), some (vI (k)), some (vI (x)), some (vI (0))]) r_12_ranksBy_1 rfl rfl ?_
    refine pw_iload r_12_ranksBy_2 rfl ?_
    refine pw_tswitch r_12_ranksBy_3 ?_
    refine pw_swt (fun h03 => ?_) (fun h03_0 => ?_)
    · skip
      rw [h03] at hP
      refine pw_aload r_12_ranksBy_48 rfl ?_
      refine pw_const r_12_ranksBy_49 ?_
      refine pw_callV (av := [vI (11)]) (st := []) (ls0 := [some (vR 12 (0)), some (vI (11))]) r_12_ranksBy_51 rfl rfl rfl (Nat.le_refl _) ?_
      refine sp_X12_begins (hbk) (by omega) ?_
      intro A c hn
      have hcl := nt_len [11] (gA G 269 0, (gF G 12 0 104))
      rw [show List.foldl ntM (gA G 269 0, (gF G 12 0 104)) [11] = (A, c) from hn.symm] at hcl
      replace hcl : c = (gF G 12 0 104) + 1 := hcl
      refine pw_aload r_12_ranksBy_54 rfl ?_
      refine pw_aload r_12_ranksBy_55 rfl ?_
      refine pw_getR r_12_ranksBy_56 fs_12_6 (by decide) ?_
      refine pw_aload r_12_ranksBy_59 rfl ?_
      refine pw_getIv (v := gF G 12 (0) 105) r_12_ranksBy_60 fs_12_105 (by decide) (by first | rfl | simp [gF_sF, gF_sA, gF_uA, gF_sD, gA_sF, gA_sA, gA_uA, gA_sD, gD_sF, gD_sA, gD_uA, gD_sD]) ?_
      refine pw_ialdv (v := gA G 204 (0) (gF G 12 (0) 105)) r_12_ranksBy_63 sh204 (by omega) (by omega) (by first | rfl | simp [gF_sF, gF_sA, gF_uA, gF_sD, gA_sF, gA_sA, gA_uA, gA_sD, gD_sF, gD_sA, gD_uA, gD_sD]) ?_
      refine pw_iload r_12_ranksBy_64 rfl ?_
      refine pw_callV (av := [vI (gA G 204 (0) (gF G 12 (0) 105)), vI (x)]) (st := []) (ls0 := [some (vR 12 (0)), some (vI (gA G 204 (0) (gF G 12 (0) 105))), some (vI (x))]) r_12_ranksBy_65 rfl rfl rfl (Nat.le_refl _) ?_
      refine sp_X12_goesBy (4) (d := d + nR) (by have q1 := lvl_is (gA G 204 0 ((gF G 12 0 105))); omega) (by omega) (hru) (show 0 ≤ c by omega) (show c + 100 * _ < _ by omega) ?_
      intro A1 c1 hr1
      refine pw_top (b := (goK (gA G 208 (0) ((gF G 12 (0) 105))) (gA G 204 (0) (gF (sF (uA G 269 (0) (A)) 12 (0) 104 (c)) 12 (0) 105)) x).1) (by first | rfl | simp (disch := decide) [gF_sF, gF_sA, gF_uA, gF_sD, gA_sF, gA_sA, gA_uA, gA_sD, gD_sF, gD_sA, gD_uA, gD_sD]) ?_
      replace hr1 : (A1, c1) = List.foldl ntM (A, c) _ := hr1
      have hclc1 : c ≤ c1 ∧ c1 ≤ c + 16 := by first | (have h9 := go_cnt hr1; omega) | (have h9 := rk_cnt hr1; omega) | (have h9 := tl_cnt hr1; omega)
      refine pw_const r_12_ranksBy_68 ?_
      refine pw_imulW r_12_ranksBy_69 ?_
      refine pw_iret r_12_ranksBy_70 rfl (Nat.le_refl _) ⟨rfl, ?_⟩
      rw [hn] at hr1
      first | (rw [hr1, ← List.foldl_append] at hr2; rw [tpm_abs, tpm_abs]; exact hP A2 c2 hr2) | (rw [tpm_abs]; exact hP A1 c1 hr1)
    refine pw_swt (fun h03 => ?_) (fun h03_1 => ?_)
    · skip
      refine pw_aload r_12_ranksBy_164 rfl ?_
      refine pw_iload r_12_ranksBy_165 rfl ?_
      refine pw_callS (av := [vI (k)]) (st := [vR 12 (0)]) (ls0 := [some (vI (k))]) r_12_ranksBy_166 rfl rfl rfl (Nat.le_refl _) ?_
      refine sp_X12_above  ?_
      refine pw_top (b := (if k = 1 then 0 else 1)) (by split <;> (try split) <;> (try split) <;> omega) ?_
      refine pw_iload r_12_ranksBy_169 rfl ?_
      refine pw_callV (av := [vI ((if k = 1 then 0 else 1)), vI (x)]) (st := []) (ls0 := [some (vR 12 (0)), some (vI ((if k = 1 then 0 else 1))), some (vI (x)), none]) r_12_ranksBy_170 rfl rfl rfl (Nat.le_refl _) ?_
      refine ihR (d := d) (by have q1 := lvl_is k; have q2 := lvl_is 0; have q3 := lvl_is 1; split <;> omega) (by split <;> omega) (hru) (hbk) (by omega) (hkd) ?_
      intro A1 c1 hr1
      refine pw_iret r_12_ranksBy_173 rfl (Nat.le_refl _) ⟨rfl, ?_⟩
      have hg1 : rkK (gA G 208 0 ((gF G 12 0 105))) (gA G 210 0 ((gF G 12 0 105))) (gA G 204 0 ((gF G 12 0 105))) (if k = 1 then (0 : Int) else 1) x = rkK (gA G 208 0 ((gF G 12 0 105))) (gA G 210 0 ((gF G 12 0 105))) (gA G 204 0 ((gF G 12 0 105))) k x := by
        by_cases e : k = 1
        · rw [if_pos e, e]; rfl
        · rw [if_neg e]; unfold rkK; rw [if_neg (by decide), if_neg (by decide), if_neg (by decide), if_neg (by omega), if_neg (by omega), if_neg (by omega)]
      rw [hg1] at hr1 ⊢
      exact hP A1 c1 hr1
    refine pw_swt (fun h03 => ?_) (fun h03_2 => ?_)
    · skip
      rw [h03] at hP
      refine pw_aload r_12_ranksBy_71 rfl ?_
      refine pw_const r_12_ranksBy_72 ?_
      refine pw_callV (av := [vI (30)]) (st := []) (ls0 := [some (vR 12 (0)), some (vI (30))]) r_12_ranksBy_74 rfl rfl rfl (Nat.le_refl _) ?_
      refine sp_X12_begins (hbk) (by omega) ?_
      intro A c hn
      have hcl := nt_len [30] (gA G 269 0, (gF G 12 0 104))
      rw [show List.foldl ntM (gA G 269 0, (gF G 12 0 104)) [30] = (A, c) from hn.symm] at hcl
      replace hcl : c = (gF G 12 0 104) + 1 := hcl
      refine pw_aload r_12_ranksBy_77 rfl ?_
      refine pw_const r_12_ranksBy_78 ?_
      refine pw_callS (av := [vI (2)]) (st := [vR 12 (0)]) (ls0 := [some (vI (2))]) r_12_ranksBy_79 rfl rfl rfl (Nat.le_refl _) ?_
      refine sp_X12_above  ?_
      refine pw_top (b := 1) (by decide) ?_
      refine pw_iload r_12_ranksBy_82 rfl ?_
      refine pw_callV (av := [vI (1), vI (x)]) (st := []) (ls0 := [some (vR 12 (0)), some (vI (1)), some (vI (x)), none]) r_12_ranksBy_83 rfl rfl rfl (Nat.le_refl _) ?_
      refine ihR (d := d) (by have q1 := lvl_is k; have q2 := lvl_is 0; have q3 := lvl_is 1; have q4 := lvl_is 4; omega) (by omega) (hru) (show 0 ≤ c by omega) (show c + 100 * _ < _ by omega) (hkd) ?_
      intro A1 c1 hr1
      refine pw_top (b := (rkK (gA G 208 (0) ((gF G 12 (0) 105))) (gA G 210 (0) ((gF G 12 (0) 105))) (gA G 204 (0) ((gF G 12 (0) 105))) 1 x).1) (by first | rfl | simp (disch := decide) [gF_sF, gF_sA, gF_uA, gF_sD, gA_sF, gA_sA, gA_uA, gA_sD, gD_sF, gD_sA, gD_uA, gD_sD]) ?_
      replace hr1 : (A1, c1) = List.foldl ntM (A, c) _ := hr1
      have hclc1 : c ≤ c1 ∧ c1 ≤ c + 16 := by first | (have h9 := go_cnt hr1; omega) | (have h9 := rk_cnt hr1; omega) | (have h9 := tl_cnt hr1; omega)
      refine pw_aload r_12_ranksBy_86 rfl ?_
      refine pw_getR r_12_ranksBy_87 fs_12_12 (by decide) ?_
      refine pw_aload r_12_ranksBy_90 rfl ?_
      refine pw_getIv (v := gF G 12 (0) 105) r_12_ranksBy_91 fs_12_105 (by decide) (by first | rfl | simp [gF_sF, gF_sA, gF_uA, gF_sD, gA_sF, gA_sA, gA_uA, gA_sD, gD_sF, gD_sA, gD_uA, gD_sD]) ?_
      refine pw_ialdv (v := gA G 210 (0) (gF G 12 (0) 105)) r_12_ranksBy_94 sh210 (by omega) (by omega) (by first | rfl | simp [gF_sF, gF_sA, gF_uA, gF_sD, gA_sF, gA_sA, gA_uA, gA_sD, gD_sF, gD_sA, gD_uA, gD_sD]) ?_
      refine pw_iaddW r_12_ranksBy_95 ?_
      refine pw_iret r_12_ranksBy_96 rfl (Nat.le_refl _) ⟨rfl, ?_⟩
      rw [hn] at hr1
      first | (rw [hr1, ← List.foldl_append] at hr2; rw [tpm_abs, tpm_abs]; exact hP A2 c2 hr2) | (rw [tpm_abs]; exact hP A1 c1 hr1)
    refine pw_swt (fun h03 => ?_) (fun h03_3 => ?_)
    · skip
      refine pw_aload r_12_ranksBy_164 rfl ?_
      refine pw_iload r_12_ranksBy_165 rfl ?_
      refine pw_callS (av := [vI (k)]) (st := [vR 12 (0)]) (ls0 := [some (vI (k))]) r_12_ranksBy_166 rfl rfl rfl (Nat.le_refl _) ?_
      refine sp_X12_above  ?_
      refine pw_top (b := (if k = 1 then 0 else 1)) (by split <;> (try split) <;> (try split) <;> omega) ?_
      refine pw_iload r_12_ranksBy_169 rfl ?_
      refine pw_callV (av := [vI ((if k = 1 then 0 else 1)), vI (x)]) (st := []) (ls0 := [some (vR 12 (0)), some (vI ((if k = 1 then 0 else 1))), some (vI (x)), none]) r_12_ranksBy_170 rfl rfl rfl (Nat.le_refl _) ?_
      refine ihR (d := d) (by have q1 := lvl_is k; have q2 := lvl_is 0; have q3 := lvl_is 1; split <;> omega) (by split <;> omega) (hru) (hbk) (by omega) (hkd) ?_
      intro A1 c1 hr1
      refine pw_iret r_12_ranksBy_173 rfl (Nat.le_refl _) ⟨rfl, ?_⟩
      have hg1 : rkK (gA G 208 0 ((gF G 12 0 105))) (gA G 210 0 ((gF G 12 0 105))) (gA G 204 0 ((gF G 12 0 105))) (if k = 1 then (0 : Int) else 1) x = rkK (gA G 208 0 ((gF G 12 0 105))) (gA G 210 0 ((gF G 12 0 105))) (gA G 204 0 ((gF G 12 0 105))) k x := by
        by_cases e : k = 1
        · rw [if_pos e, e]; rfl
        · rw [if_neg e]; unfold rkK; rw [if_neg (by decide), if_neg (by decide), if_neg (by decide), if_neg (by omega), if_neg (by omega), if_neg (by omega)]
      rw [hg1] at hr1 ⊢
      exact hP A1 c1 hr1
    refine pw_swt (fun h03 => ?_) (fun h03_4 => ?_)
    · skip
      refine pw_aload r_12_ranksBy_164 rfl ?_
      refine pw_iload r_12_ranksBy_165 rfl ?_
      refine pw_callS (av := [vI (k)]) (st := [vR 12 (0)]) (ls0 := [some (vI (k))]) r_12_ranksBy_166 rfl rfl rfl (Nat.le_refl _) ?_
      refine sp_X12_above  ?_
      refine pw_top (b := (if k = 1 then 0 else 1)) (by split <;> (try split) <;> (try split) <;> omega) ?_
      refine pw_iload r_12_ranksBy_169 rfl ?_
      refine pw_callV (av := [vI ((if k = 1 then 0 else 1)), vI (x)]) (st := []) (ls0 := [some (vR 12 (0)), some (vI ((if k = 1 then 0 else 1))), some (vI (x)), none]) r_12_ranksBy_170 rfl rfl rfl (Nat.le_refl _) ?_
      refine ihR (d := d) (by have q1 := lvl_is k; have q2 := lvl_is 0; have q3 := lvl_is 1; split <;> omega) (by split <;> omega) (hru) (hbk) (by omega) (hkd) ?_
      intro A1 c1 hr1
      refine pw_iret r_12_ranksBy_173 rfl (Nat.le_refl _) ⟨rfl, ?_⟩
      have hg1 : rkK (gA G 208 0 ((gF G 12 0 105))) (gA G 210 0 ((gF G 12 0 105))) (gA G 204 0 ((gF G 12 0 105))) (if k = 1 then (0 : Int) else 1) x = rkK (gA G 208 0 ((gF G 12 0 105))) (gA G 210 0 ((gF G 12 0 105))) (gA G 204 0 ((gF G 12 0 105))) k x := by
        by_cases e : k = 1
        · rw [if_pos e, e]; rfl
        · rw [if_neg e]; unfold rkK; rw [if_neg (by decide), if_neg (by decide), if_neg (by decide), if_neg (by omega), if_neg (by omega), if_neg (by omega)]
      rw [hg1] at hr1 ⊢
      exact hP A1 c1 hr1
    refine pw_swt (fun h03 => ?_) (fun h03_5 => ?_)
    · skip
      rw [h03] at hP
      refine pw_aload r_12_ranksBy_97 rfl ?_
      refine pw_const r_12_ranksBy_98 ?_
      refine pw_callV (av := [vI (60)]) (st := []) (ls0 := [some (vR 12 (0)), some (vI (60))]) r_12_ranksBy_100 rfl rfl rfl (Nat.le_refl _) ?_
      refine sp_X12_begins (hbk) (by omega) ?_
      intro A c hn
      have hcl := nt_len [60] (gA G 269 0, (gF G 12 0 104))
      rw [show List.foldl ntM (gA G 269 0, (gF G 12 0 104)) [60] = (A, c) from hn.symm] at hcl
      replace hcl : c = (gF G 12 0 104) + 1 := hcl
      refine pw_aload r_12_ranksBy_103 rfl ?_
      refine pw_aload r_12_ranksBy_104 rfl ?_
      refine pw_getR r_12_ranksBy_105 fs_12_6 (by decide) ?_
      refine pw_aload r_12_ranksBy_108 rfl ?_
      refine pw_getIv (v := gF G 12 (0) 105) r_12_ranksBy_109 fs_12_105 (by decide) (by first | rfl | simp [gF_sF, gF_sA, gF_uA, gF_sD, gA_sF, gA_sA, gA_uA, gA_sD, gD_sF, gD_sA, gD_uA, gD_sD]) ?_
      refine pw_ialdv (v := gA G 204 (0) (gF G 12 (0) 105)) r_12_ranksBy_112 sh204 (by omega) (by omega) (by first | rfl | simp [gF_sF, gF_sA, gF_uA, gF_sD, gA_sF, gA_sA, gA_uA, gA_sD, gD_sF, gD_sA, gD_uA, gD_sD]) ?_
      refine pw_iload r_12_ranksBy_113 rfl ?_
      refine pw_callV (av := [vI (gA G 204 (0) (gF G 12 (0) 105)), vI (x)]) (st := []) (ls0 := [some (vR 12 (0)), some (vI (gA G 204 (0) (gF G 12 (0) 105))), some (vI (x))]) r_12_ranksBy_114 rfl rfl rfl (Nat.le_refl _) ?_
      refine sp_X12_goesBy (4) (d := d + nR) (by have q1 := lvl_is (gA G 204 0 ((gF G 12 0 105))); omega) (by omega) (hru) (show 0 ≤ c by omega) (show c + 100 * _ < _ by omega) ?_
      intro A1 c1 hr1
      refine pw_top (b := (goK (gA G 208 (0) ((gF G 12 (0) 105))) (gA G 204 (0) (gF (sF (uA G 269 (0) (A)) 12 (0) 104 (c)) 12 (0) 105)) x).1) (by first | rfl | simp (disch := decide) [gF_sF, gF_sA, gF_uA, gF_sD, gA_sF, gA_sA, gA_uA, gA_sD, gD_sF, gD_sA, gD_uA, gD_sD]) ?_
      replace hr1 : (A1, c1) = List.foldl ntM (A, c) _ := hr1
      have hclc1 : c ≤ c1 ∧ c1 ≤ c + 16 := by first | (have h9 := go_cnt hr1; omega) | (have h9 := rk_cnt hr1; omega) | (have h9 := tl_cnt hr1; omega)
      refine pw_istore (ls' := [some (vR 12 (0)), some (vI (k)), some (vI (x)), some (vI ((goK (gA G 208 (0) ((gF G 12 (0) 105))) (gA G 204 (0) (gF (sF (uA G 269 (0) (A)) 12 (0) 104 (c)) 12 (0) 105)) x).1))]) r_12_ranksBy_117 rfl rfl ?_
      refine pw_iload r_12_ranksBy_118 rfl ?_
      refine pw_aload r_12_ranksBy_119 rfl ?_
      refine pw_const r_12_ranksBy_120 ?_
      refine pw_callS (av := [vI (5)]) (st := [vR 12 (0), vI ((goK (gA G 208 (0) ((gF G 12 (0) 105))) (gA G 204 (0) (gF (sF (uA G 269 (0) (A)) 12 (0) 104 (c)) 12 (0) 105)) x).1)]) (ls0 := [some (vI (5))]) r_12_ranksBy_121 rfl rfl rfl (Nat.le_refl _) ?_
      refine sp_X12_above  ?_
      refine pw_top (b := 1) (by decide) ?_
      refine pw_iload r_12_ranksBy_124 rfl ?_
      refine pw_callV (av := [vI (1), vI (x)]) (st := [vI ((goK (gA G 208 (0) ((gF G 12 (0) 105))) (gA G 204 (0) (gF (sF (uA G 269 (0) (A)) 12 (0) 104 (c)) 12 (0) 105)) x).1)]) (ls0 := [some (vR 12 (0)), some (vI (1)), some (vI (x)), none]) r_12_ranksBy_125 rfl rfl rfl (Nat.le_refl _) ?_
      refine ihR (d := d) (by have q1 := lvl_is k; have q2 := lvl_is 0; have q3 := lvl_is 1; have q4 := lvl_is 4; omega) (by omega) (hru) (show 0 ≤ c1 by omega) (show c1 + 100 * _ < _ by omega) (hkd) ?_
      intro A2 c2 hr2
      refine pw_top (b := (rkK (gA G 208 (0) ((gF G 12 (0) 105))) (gA G 210 (0) ((gF G 12 (0) 105))) (gA G 204 (0) ((gF G 12 (0) 105))) 1 x).1) (by first | rfl | simp (disch := decide) [gF_sF, gF_sA, gF_uA, gF_sD, gA_sF, gA_sA, gA_uA, gA_sD, gD_sF, gD_sA, gD_uA, gD_sD]) ?_
      replace hr2 : (A2, c2) = List.foldl ntM (A1, c1) _ := hr2
      have hclc2 : c1 ≤ c2 ∧ c2 ≤ c1 + 16 := by first | (have h9 := go_cnt hr2; omega) | (have h9 := rk_cnt hr2; omega) | (have h9 := tl_cnt hr2; omega)
      refine pw_isubW r_12_ranksBy_128 ?_
      refine pw_iret r_12_ranksBy_129 rfl (Nat.le_refl _) ⟨rfl, ?_⟩
      rw [hn] at hr1
      first | (rw [hr1, ← List.foldl_append] at hr2; rw [tpm_abs, tpm_abs]; exact hP A2 c2 hr2) | (rw [tpm_abs]; exact hP A1 c1 hr1)
    refine pw_swt (fun h03 => ?_) (fun h03_6 => ?_)
    · skip
      refine pw_aload r_12_ranksBy_164 rfl ?_
      refine pw_iload r_12_ranksBy_165 rfl ?_
      refine pw_callS (av := [vI (k)]) (st := [vR 12 (0)]) (ls0 := [some (vI (k))]) r_12_ranksBy_166 rfl rfl rfl (Nat.le_refl _) ?_
      refine sp_X12_above  ?_
      refine pw_top (b := (if k = 1 then 0 else 1)) (by split <;> (try split) <;> (try split) <;> omega) ?_
      refine pw_iload r_12_ranksBy_169 rfl ?_
      refine pw_callV (av := [vI ((if k = 1 then 0 else 1)), vI (x)]) (st := []) (ls0 := [some (vR 12 (0)), some (vI ((if k = 1 then 0 else 1))), some (vI (x)), none]) r_12_ranksBy_170 rfl rfl rfl (Nat.le_refl _) ?_
      refine ihR (d := d) (by have q1 := lvl_is k; have q2 := lvl_is 0; have q3 := lvl_is 1; split <;> omega) (by split <;> omega) (hru) (hbk) (by omega) (hkd) ?_
      intro A1 c1 hr1
      refine pw_iret r_12_ranksBy_173 rfl (Nat.le_refl _) ⟨rfl, ?_⟩
      have hg1 : rkK (gA G 208 0 ((gF G 12 0 105))) (gA G 210 0 ((gF G 12 0 105))) (gA G 204 0 ((gF G 12 0 105))) (if k = 1 then (0 : Int) else 1) x = rkK (gA G 208 0 ((gF G 12 0 105))) (gA G 210 0 ((gF G 12 0 105))) (gA G 204 0 ((gF G 12 0 105))) k x := by
        by_cases e : k = 1
        · rw [if_pos e, e]; rfl
        · rw [if_neg e]; unfold rkK; rw [if_neg (by decide), if_neg (by decide), if_neg (by decide), if_neg (by omega), if_neg (by omega), if_neg (by omega)]
      rw [hg1] at hr1 ⊢
      exact hP A1 c1 hr1
    refine pw_swt (fun h03 => ?_) (fun h03_7 => ?_)
    · skip
      rw [h03] at hP
      refine pw_aload r_12_ranksBy_130 rfl ?_
      refine pw_const r_12_ranksBy_131 ?_
      refine pw_callV (av := [vI (80)]) (st := []) (ls0 := [some (vR 12 (0)), some (vI (80))]) r_12_ranksBy_133 rfl rfl rfl (Nat.le_refl _) ?_
      refine sp_X12_begins (hbk) (by omega) ?_
      intro A c hn
      have hcl := nt_len [80] (gA G 269 0, (gF G 12 0 104))
      rw [show List.foldl ntM (gA G 269 0, (gF G 12 0 104)) [80] = (A, c) from hn.symm] at hcl
      replace hcl : c = (gF G 12 0 104) + 1 := hcl
      refine pw_aload r_12_ranksBy_136 rfl ?_
      refine pw_const r_12_ranksBy_137 ?_
      refine pw_callS (av := [vI (7)]) (st := [vR 12 (0)]) (ls0 := [some (vI (7))]) r_12_ranksBy_139 rfl rfl rfl (Nat.le_refl _) ?_
      refine sp_X12_above  ?_
      refine pw_top (b := 4) (by decide) ?_
      refine pw_iload r_12_ranksBy_142 rfl ?_
      refine pw_callV (av := [vI (4), vI (x)]) (st := []) (ls0 := [some (vR 12 (0)), some (vI (4)), some (vI (x)), none]) r_12_ranksBy_143 rfl rfl rfl (Nat.le_refl _) ?_
      refine ihR (d := d) (by have q1 := lvl_is k; have q2 := lvl_is 0; have q3 := lvl_is 1; have q4 := lvl_is 4; omega) (by omega) (hru) (show 0 ≤ c by omega) (show c + 100 * _ < _ by omega) (hkd) ?_
      intro A1 c1 hr1
      refine pw_top (b := (rkK (gA G 208 (0) ((gF G 12 (0) 105))) (gA G 210 (0) ((gF G 12 (0) 105))) (gA G 204 (0) ((gF G 12 (0) 105))) 4 x).1) (by first | rfl | simp (disch := decide) [gF_sF, gF_sA, gF_uA, gF_sD, gA_sF, gA_sA, gA_uA, gA_sD, gD_sF, gD_sA, gD_uA, gD_sD]) ?_
      replace hr1 : (A1, c1) = List.foldl ntM (A, c) _ := hr1
      have hclc1 : c ≤ c1 ∧ c1 ≤ c + 16 := by first | (have h9 := go_cnt hr1; omega) | (have h9 := rk_cnt hr1; omega) | (have h9 := tl_cnt hr1; omega)
      refine pw_istore (ls' := [some (vR 12 (0)), some (vI (k)), some (vI (x)), some (vI ((rkK (gA G 208 (0) ((gF G 12 (0) 105))) (gA G 210 (0) ((gF G 12 (0) 105))) (gA G 204 (0) ((gF G 12 (0) 105))) 4 x).1))]) r_12_ranksBy_146 rfl rfl ?_
      refine pw_iload r_12_ranksBy_147 rfl ?_
      refine pw_aload r_12_ranksBy_148 rfl ?_
      refine pw_aload r_12_ranksBy_149 rfl ?_
      refine pw_getR r_12_ranksBy_150 fs_12_6 (by decide) ?_
      refine pw_aload r_12_ranksBy_153 rfl ?_
      refine pw_getIv (v := gF G 12 (0) 105) r_12_ranksBy_154 fs_12_105 (by decide) (by first | rfl | simp [gF_sF, gF_sA, gF_uA, gF_sD, gA_sF, gA_sA, gA_uA, gA_sD, gD_sF, gD_sA, gD_uA, gD_sD]) ?_
      refine pw_ialdv (v := gA G 204 (0) (gF G 12 (0) 105)) r_12_ranksBy_157 sh204 (by omega) (by omega) (by first | rfl | simp [gF_sF, gF_sA, gF_uA, gF_sD, gA_sF, gA_sA, gA_uA, gA_sD, gD_sF, gD_sA, gD_uA, gD_sD]) ?_
      refine pw_iload r_12_ranksBy_158 rfl ?_
      refine pw_callV (av := [vI (gA G 204 (0) (gF G 12 (0) 105)), vI (x)]) (st := [vI ((rkK (gA G 208 (0) ((gF G 12 (0) 105))) (gA G 210 (0) ((gF G 12 (0) 105))) (gA G 204 (0) ((gF G 12 (0) 105))) 4 x).1)]) (ls0 := [some (vR 12 (0)), some (vI (gA G 204 (0) (gF G 12 (0) 105))), some (vI (x))]) r_12_ranksBy_159 rfl rfl rfl (Nat.le_refl _) ?_
      refine sp_X12_goesBy (4) (d := d + nR) (by have q1 := lvl_is (gA G 204 0 ((gF G 12 0 105))); omega) (by omega) (hru) (show 0 ≤ c1 by omega) (show c1 + 100 * _ < _ by omega) ?_
      intro A2 c2 hr2
      refine pw_top (b := (goK (gA G 208 (0) ((gF G 12 (0) 105))) (gA G 204 (0) (gF (sF (uA (sF (uA G 269 (0) (A)) 12 (0) 104 (c)) 269 (0) (A1)) 12 (0) 104 (c1)) 12 (0) 105)) x).1) (by first | rfl | simp (disch := decide) [gF_sF, gF_sA, gF_uA, gF_sD, gA_sF, gA_sA, gA_uA, gA_sD, gD_sF, gD_sA, gD_uA, gD_sD]) ?_
      replace hr2 : (A2, c2) = List.foldl ntM (A1, c1) _ := hr2
      have hclc2 : c1 ≤ c2 ∧ c2 ≤ c1 + 16 := by first | (have h9 := go_cnt hr2; omega) | (have h9 := rk_cnt hr2; omega) | (have h9 := tl_cnt hr2; omega)
      refine pw_ixor r_12_ranksBy_162 ?_
      refine pw_iret r_12_ranksBy_163 rfl (Nat.le_refl _) ⟨rfl, ?_⟩
      rw [hn] at hr1
      first | (rw [hr1, ← List.foldl_append] at hr2; rw [tpm_abs, tpm_abs]; exact hP A2 c2 hr2) | (rw [tpm_abs]; exact hP A1 c1 hr1)
    refine pw_swd ?_
    refine pw_aload r_12_ranksBy_164 rfl ?_
    refine pw_iload r_12_ranksBy_165 rfl ?_
    refine pw_callS (av := [vI (k)]) (st := [vR 12 (0)]) (ls0 := [some (vI (k))]) r_12_ranksBy_166 rfl rfl rfl (Nat.le_refl _) ?_
    refine sp_X12_above  ?_
    refine pw_top (b := (if k = 1 then 0 else 1)) (by split <;> (try split) <;> (try split) <;> omega) ?_
    refine pw_iload r_12_ranksBy_169 rfl ?_
    refine pw_callV (av := [vI ((if k = 1 then 0 else 1)), vI (x)]) (st := []) (ls0 := [some (vR 12 (0)), some (vI ((if k = 1 then 0 else 1))), some (vI (x)), none]) r_12_ranksBy_170 rfl rfl rfl (Nat.le_refl _) ?_
    refine ihR (d := d) (by have q1 := lvl_is k; have q2 := lvl_is 0; have q3 := lvl_is 1; split <;> omega) (by split <;> omega) (hru) (hbk) (by omega) (hkd) ?_
    intro A1 c1 hr1
    refine pw_iret r_12_ranksBy_173 rfl (Nat.le_refl _) ⟨rfl, ?_⟩
    have hg1 : rkK (gA G 208 0 ((gF G 12 0 105))) (gA G 210 0 ((gF G 12 0 105))) (gA G 204 0 ((gF G 12 0 105))) (if k = 1 then (0 : Int) else 1) x = rkK (gA G 208 0 ((gF G 12 0 105))) (gA G 210 0 ((gF G 12 0 105))) (gA G 204 0 ((gF G 12 0 105))) k x := by
      by_cases e : k = 1
      · rw [if_pos e, e]; rfl
      · rw [if_neg e]; unfold rkK; rw [if_neg (by decide), if_neg (by decide), if_neg (by decide), if_neg (by omega), if_neg (by omega), if_neg (by omega)]
    rw [hg1] at hr1 ⊢
    exact hP A1 c1 hr1
set_option maxRecDepth 10000 in
theorem sp_X12_tellsBy {l : Launch} {w : Wo} : ∀ (n0 : Nat), ∀ {d : Nat} {G : PH} {P : Option PV → PH → Prop} {k x : Int}, (lvl k < (n0 : Int)) → (0 ≤ k ∧ k ≤ 7) → (0 ≤ (gF G 12 0 105) ∧ (gF G 12 0 105) < 150) → (0 ≤ (gF G 12 0 104)) → ((gF G 12 0 104) + 100 * (n0 : Int) < 20000) → (1 ≤ (gA G 204 0 ((gF G 12 0 105))) ∧ (gA G 204 0 ((gF G 12 0 105))) ≤ 7) → (∀ A c, (A, c) = List.foldl ntM (gA G 269 0, (gF G 12 0 104)) (tlK (gA G 208 0 ((gF G 12 0 105))) (gA G 210 0 ((gF G 12 0 105))) (gF G 12 0 105) (gA G 204 0 ((gF G 12 0 105))) k x).2 → P (some (vI ((tlK (gA G 208 0 ((gF G 12 0 105))) (gA G 210 0 ((gF G 12 0 105))) (gF G 12 0 105) (gA G 204 0 ((gF G 12 0 105))) k x).1))) (sF (uA G 269 0 (A)) 12 0 104 (c))) → PW l w M_X12_tellsBy (d + n0 + 9) 0 [some (vR 12 (0)), some (vI (k)), some (vI (x)), none] [] G P := by
  intro n0
  induction n0 with
  | zero => intro d G P k x hM; have h9 := lvl_is k; exfalso; omega
  | succ nR ihR =>
    intro d G P k x hM hk hru hbk hrb hkd hP
    rw [show d + (nR + 1) + 9 = d + nR + 10 by omega]
    refine pw_iload r_12_tellsBy_0 rfl ?_
    refine pw_tswitch r_12_tellsBy_1 ?_
    refine pw_swt (fun h01 => ?_) (fun h01_0 => ?_)
    · skip
      rw [h01] at hP
      refine pw_aload r_12_tellsBy_36 rfl ?_
      refine pw_const r_12_tellsBy_37 ?_
      refine pw_callV (av := [vI (12)]) (st := []) (ls0 := [some (vR 12 (0)), some (vI (12))]) r_12_tellsBy_39 rfl rfl rfl (Nat.le_refl _) ?_
      refine sp_X12_begins (hbk) (by omega) ?_
      intro A c hn
      have hcl := nt_len [12] (gA G 269 0, (gF G 12 0 104))
      rw [show List.foldl ntM (gA G 269 0, (gF G 12 0 104)) [12] = (A, c) from hn.symm] at hcl
      replace hcl : c = (gF G 12 0 104) + 1 := hcl
      refine pw_aload r_12_tellsBy_42 rfl ?_
      refine pw_aload r_12_tellsBy_43 rfl ?_
      refine pw_getR r_12_tellsBy_44 fs_12_6 (by decide) ?_
      refine pw_aload r_12_tellsBy_47 rfl ?_
      refine pw_getIv (v := gF G 12 (0) 105) r_12_tellsBy_48 fs_12_105 (by decide) (by first | rfl | simp [gF_sF, gF_sA, gF_uA, gF_sD, gA_sF, gA_sA, gA_uA, gA_sD, gD_sF, gD_sA, gD_uA, gD_sD]) ?_
      refine pw_ialdv (v := gA G 204 (0) (gF G 12 (0) 105)) r_12_tellsBy_51 sh204 (by omega) (by omega) (by first | rfl | simp [gF_sF, gF_sA, gF_uA, gF_sD, gA_sF, gA_sA, gA_uA, gA_sD, gD_sF, gD_sA, gD_uA, gD_sD]) ?_
      refine pw_iload r_12_tellsBy_52 rfl ?_
      refine pw_callV (av := [vI (gA G 204 (0) (gF G 12 (0) 105)), vI (x)]) (st := []) (ls0 := [some (vR 12 (0)), some (vI (gA G 204 (0) (gF G 12 (0) 105))), some (vI (x)), none]) r_12_tellsBy_53 rfl rfl rfl (Nat.le_refl _) ?_
      refine sp_X12_ranksBy (4) (d := d + nR) (by have q1 := lvl_is (gA G 204 0 ((gF G 12 0 105))); omega) (by omega) (hru) (show 0 ≤ c by omega) (show c + 100 * _ < _ by omega) (hkd) ?_
      intro A1 c1 hr1
      refine pw_top (b := (rkK (gA G 208 (0) ((gF G 12 (0) 105))) (gA G 210 (0) ((gF G 12 (0) 105))) (gA G 204 (0) ((gF G 12 (0) 105))) (gA G 204 (0) (gF (sF (uA G 269 (0) (A)) 12 (0) 104 (c)) 12 (0) 105)) x).1) (by first | rfl | simp (disch := decide) [gF_sF, gF_sA, gF_uA, gF_sD, gA_sF, gA_sA, gA_uA, gA_sD, gD_sF, gD_sA, gD_uA, gD_sD]) ?_
      replace hr1 : (A1, c1) = List.foldl ntM (A, c) _ := hr1
      have hclc1 : c ≤ c1 ∧ c1 ≤ c + 16 := by first | (have h9 := go_cnt hr1; omega) | (have h9 := rk_cnt hr1; omega) | (have h9 := tl_cnt hr1; omega)
      refine pw_aload r_12_tellsBy_56 rfl ?_
      refine pw_getIv (v := gF G 12 (0) 105) r_12_tellsBy_57 fs_12_105 (by decide) (by first | rfl | simp [gF_sF, gF_sA, gF_uA, gF_sD, gA_sF, gA_sA, gA_uA, gA_sD, gD_sF, gD_sA, gD_uA, gD_sD]) ?_
      refine pw_ixor r_12_tellsBy_60 ?_
      refine pw_iret r_12_tellsBy_61 rfl (Nat.le_refl _) ⟨rfl, ?_⟩
      rw [hn] at hr1
      first | (rw [hr1, ← List.foldl_append] at hr2; rw [tpm_abs, tpm_abs]; exact hP A2 c2 hr2) | (rw [tpm_abs]; exact hP A1 c1 hr1)
    refine pw_swt (fun h01 => ?_) (fun h01_1 => ?_)
    · skip
      refine pw_aload r_12_tellsBy_112 rfl ?_
      refine pw_iload r_12_tellsBy_113 rfl ?_
      refine pw_callS (av := [vI (k)]) (st := [vR 12 (0)]) (ls0 := [some (vI (k))]) r_12_tellsBy_114 rfl rfl rfl (Nat.le_refl _) ?_
      refine sp_X12_above  ?_
      refine pw_iload r_12_tellsBy_117 rfl ?_
      refine pw_callV (av := [vI (if k = 7 then 4 else if 1 < k then 1 else 0), vI (x)]) (st := []) (ls0 := [some (vR 12 (0)), some (vI (if k = 7 then 4 else if 1 < k then 1 else 0)), some (vI (x)), none]) r_12_tellsBy_118 rfl rfl rfl (Nat.le_refl _) ?_
      refine ihR (d := d) (by have q1 := lvl_is k; have q2 := lvl_is 0; have q3 := lvl_is 1; have q4 := lvl_is 4; split <;> (try split) <;> omega) (by split <;> (try split) <;> omega) (hru) (hbk) (by omega) (hkd) ?_
      intro A1 c1 hr1
      refine pw_iret r_12_tellsBy_121 rfl (Nat.le_refl _) ⟨rfl, ?_⟩
      have hg1 : tlK (gA G 208 0 ((gF G 12 0 105))) (gA G 210 0 ((gF G 12 0 105))) (gF G 12 0 105) (gA G 204 0 ((gF G 12 0 105))) (if k = 7 then (4 : Int) else if 1 < k then 1 else 0) x = tlK (gA G 208 0 ((gF G 12 0 105))) (gA G 210 0 ((gF G 12 0 105))) (gF G 12 0 105) (gA G 204 0 ((gF G 12 0 105))) k x := by
        by_cases e : k = 7
        · rw [if_pos e, e]; rfl
        · rw [if_neg e]
          have e2 : tlK (gA G 208 0 ((gF G 12 0 105))) (gA G 210 0 ((gF G 12 0 105))) (gF G 12 0 105) (gA G 204 0 ((gF G 12 0 105))) k x = tl0 (gA G 208 0 ((gF G 12 0 105))) (gA G 210 0 ((gF G 12 0 105))) (gF G 12 0 105) (gA G 204 0 ((gF G 12 0 105))) x := by unfold tlK; rw [if_neg (by omega), if_neg (by omega), if_neg (by omega)]
          rw [e2]
          split <;> rfl
      rw [hg1] at hr1 ⊢
      exact hP A1 c1 hr1
    refine pw_swt (fun h01 => ?_) (fun h01_2 => ?_)
    · skip
      refine pw_aload r_12_tellsBy_112 rfl ?_
      refine pw_iload r_12_tellsBy_113 rfl ?_
      refine pw_callS (av := [vI (k)]) (st := [vR 12 (0)]) (ls0 := [some (vI (k))]) r_12_tellsBy_114 rfl rfl rfl (Nat.le_refl _) ?_
      refine sp_X12_above  ?_
      refine pw_iload r_12_tellsBy_117 rfl ?_
      refine pw_callV (av := [vI (if k = 7 then 4 else if 1 < k then 1 else 0), vI (x)]) (st := []) (ls0 := [some (vR 12 (0)), some (vI (if k = 7 then 4 else if 1 < k then 1 else 0)), some (vI (x)), none]) r_12_tellsBy_118 rfl rfl rfl (Nat.le_refl _) ?_
      refine ihR (d := d) (by have q1 := lvl_is k; have q2 := lvl_is 0; have q3 := lvl_is 1; have q4 := lvl_is 4; split <;> (try split) <;> omega) (by split <;> (try split) <;> omega) (hru) (hbk) (by omega) (hkd) ?_
      intro A1 c1 hr1
      refine pw_iret r_12_tellsBy_121 rfl (Nat.le_refl _) ⟨rfl, ?_⟩
      have hg1 : tlK (gA G 208 0 ((gF G 12 0 105))) (gA G 210 0 ((gF G 12 0 105))) (gF G 12 0 105) (gA G 204 0 ((gF G 12 0 105))) (if k = 7 then (4 : Int) else if 1 < k then 1 else 0) x = tlK (gA G 208 0 ((gF G 12 0 105))) (gA G 210 0 ((gF G 12 0 105))) (gF G 12 0 105) (gA G 204 0 ((gF G 12 0 105))) k x := by
        by_cases e : k = 7
        · rw [if_pos e, e]; rfl
        · rw [if_neg e]
          have e2 : tlK (gA G 208 0 ((gF G 12 0 105))) (gA G 210 0 ((gF G 12 0 105))) (gF G 12 0 105) (gA G 204 0 ((gF G 12 0 105))) k x = tl0 (gA G 208 0 ((gF G 12 0 105))) (gA G 210 0 ((gF G 12 0 105))) (gF G 12 0 105) (gA G 204 0 ((gF G 12 0 105))) x := by unfold tlK; rw [if_neg (by omega), if_neg (by omega), if_neg (by omega)]
          rw [e2]
          split <;> rfl
      rw [hg1] at hr1 ⊢
      exact hP A1 c1 hr1
    refine pw_swt (fun h01 => ?_) (fun h01_3 => ?_)
    · skip
      rw [h01] at hP
      refine pw_aload r_12_tellsBy_62 rfl ?_
      refine pw_const r_12_tellsBy_63 ?_
      refine pw_callV (av := [vI (40)]) (st := []) (ls0 := [some (vR 12 (0)), some (vI (40))]) r_12_tellsBy_65 rfl rfl rfl (Nat.le_refl _) ?_
      refine sp_X12_begins (hbk) (by omega) ?_
      intro A c hn
      have hcl := nt_len [40] (gA G 269 0, (gF G 12 0 104))
      rw [show List.foldl ntM (gA G 269 0, (gF G 12 0 104)) [40] = (A, c) from hn.symm] at hcl
      replace hcl : c = (gF G 12 0 104) + 1 := hcl
      refine pw_aload r_12_tellsBy_68 rfl ?_
      refine pw_const r_12_tellsBy_69 ?_
      refine pw_callS (av := [vI (3)]) (st := [vR 12 (0)]) (ls0 := [some (vI (3))]) r_12_tellsBy_70 rfl rfl rfl (Nat.le_refl _) ?_
      refine sp_X12_above  ?_
      refine pw_top (b := 1) (by decide) ?_
      refine pw_iload r_12_tellsBy_73 rfl ?_
      refine pw_callV (av := [vI (1), vI (x)]) (st := []) (ls0 := [some (vR 12 (0)), some (vI (1)), some (vI (x)), none]) r_12_tellsBy_74 rfl rfl rfl (Nat.le_refl _) ?_
      refine ihR (d := d) (by have q1 := lvl_is k; have q2 := lvl_is 0; have q3 := lvl_is 1; have q4 := lvl_is 4; omega) (by omega) (hru) (show 0 ≤ c by omega) (show c + 100 * _ < _ by omega) (hkd) ?_
      intro A1 c1 hr1
      refine pw_top (b := (tlK (gA G 208 (0) ((gF G 12 (0) 105))) (gA G 210 (0) ((gF G 12 (0) 105))) (gF G 12 (0) 105) (gA G 204 (0) ((gF G 12 (0) 105))) 1 x).1) (by first | rfl | simp (disch := decide) [gF_sF, gF_sA, gF_uA, gF_sD, gA_sF, gA_sA, gA_uA, gA_sD, gD_sF, gD_sA, gD_uA, gD_sD]) ?_
      replace hr1 : (A1, c1) = List.foldl ntM (A, c) _ := hr1
      have hclc1 : c ≤ c1 ∧ c1 ≤ c + 16 := by first | (have h9 := go_cnt hr1; omega) | (have h9 := rk_cnt hr1; omega) | (have h9 := tl_cnt hr1; omega)
      refine pw_inegW r_12_tellsBy_77 ?_
      refine pw_iret r_12_tellsBy_78 rfl (Nat.le_refl _) ⟨rfl, ?_⟩
      rw [hn] at hr1
      first | (rw [hr1, ← List.foldl_append] at hr2; rw [tpm_abs, tpm_abs]; exact hP A2 c2 hr2) | (rw [tpm_abs]; exact hP A1 c1 hr1)
    refine pw_swt (fun h01 => ?_) (fun h01_4 => ?_)
    · skip
      rw [h01] at hP
      refine pw_aload r_12_tellsBy_79 rfl ?_
      refine pw_const r_12_tellsBy_80 ?_
      refine pw_callV (av := [vI (51)]) (st := []) (ls0 := [some (vR 12 (0)), some (vI (51))]) r_12_tellsBy_82 rfl rfl rfl (Nat.le_refl _) ?_
      refine sp_X12_begins (hbk) (by omega) ?_
      intro A c hn
      have hcl := nt_len [51] (gA G 269 0, (gF G 12 0 104))
      rw [show List.foldl ntM (gA G 269 0, (gF G 12 0 104)) [51] = (A, c) from hn.symm] at hcl
      replace hcl : c = (gF G 12 0 104) + 1 := hcl
      refine pw_aload r_12_tellsBy_85 rfl ?_
      refine pw_const r_12_tellsBy_86 ?_
      refine pw_callS (av := [vI (4)]) (st := [vR 12 (0)]) (ls0 := [some (vI (4))]) r_12_tellsBy_87 rfl rfl rfl (Nat.le_refl _) ?_
      refine sp_X12_above  ?_
      refine pw_top (b := 1) (by decide) ?_
      refine pw_iload r_12_tellsBy_90 rfl ?_
      refine pw_callV (av := [vI (1), vI (x)]) (st := []) (ls0 := [some (vR 12 (0)), some (vI (1)), some (vI (x)), none]) r_12_tellsBy_91 rfl rfl rfl (Nat.le_refl _) ?_
      refine ihR (d := d) (by have q1 := lvl_is k; have q2 := lvl_is 0; have q3 := lvl_is 1; have q4 := lvl_is 4; omega) (by omega) (hru) (show 0 ≤ c by omega) (show c + 100 * _ < _ by omega) (hkd) ?_
      intro A1 c1 hr1
      refine pw_top (b := (tlK (gA G 208 (0) ((gF G 12 (0) 105))) (gA G 210 (0) ((gF G 12 (0) 105))) (gF G 12 (0) 105) (gA G 204 (0) ((gF G 12 (0) 105))) 1 x).1) (by first | rfl | simp (disch := decide) [gF_sF, gF_sA, gF_uA, gF_sD, gA_sF, gA_sA, gA_uA, gA_sD, gD_sF, gD_sA, gD_uA, gD_sD]) ?_
      replace hr1 : (A1, c1) = List.foldl ntM (A, c) _ := hr1
      have hclc1 : c ≤ c1 ∧ c1 ≤ c + 16 := by first | (have h9 := go_cnt hr1; omega) | (have h9 := rk_cnt hr1; omega) | (have h9 := tl_cnt hr1; omega)
      refine pw_istore (ls' := [some (vR 12 (0)), some (vI (k)), some (vI (x)), some (vI ((tlK (gA G 208 (0) ((gF G 12 (0) 105))) (gA G 210 (0) ((gF G 12 (0) 105))) (gF G 12 (0) 105) (gA G 204 (0) ((gF G 12 (0) 105))) 1 x).1))]) r_12_tellsBy_94 rfl rfl ?_
      refine pw_iload r_12_tellsBy_95 rfl ?_
      refine pw_aload r_12_tellsBy_96 rfl ?_
      refine pw_aload r_12_tellsBy_97 rfl ?_
      refine pw_getR r_12_tellsBy_98 fs_12_6 (by decide) ?_
      refine pw_aload r_12_tellsBy_101 rfl ?_
      refine pw_getIv (v := gF G 12 (0) 105) r_12_tellsBy_102 fs_12_105 (by decide) (by first | rfl | simp [gF_sF, gF_sA, gF_uA, gF_sD, gA_sF, gA_sA, gA_uA, gA_sD, gD_sF, gD_sA, gD_uA, gD_sD]) ?_
      refine pw_ialdv (v := gA G 204 (0) (gF G 12 (0) 105)) r_12_tellsBy_105 sh204 (by omega) (by omega) (by first | rfl | simp [gF_sF, gF_sA, gF_uA, gF_sD, gA_sF, gA_sA, gA_uA, gA_sD, gD_sF, gD_sA, gD_uA, gD_sD]) ?_
      refine pw_const r_12_tellsBy_106 ?_
      refine pw_callV (av := [vI (gA G 204 (0) (gF G 12 (0) 105)), vI (1)]) (st := [vI ((tlK (gA G 208 (0) ((gF G 12 (0) 105))) (gA G 210 (0) ((gF G 12 (0) 105))) (gF G 12 (0) 105) (gA G 204 (0) ((gF G 12 (0) 105))) 1 x).1)]) (ls0 := [some (vR 12 (0)), some (vI (gA G 204 (0) (gF G 12 (0) 105))), some (vI (1))]) r_12_tellsBy_107 rfl rfl rfl (Nat.le_refl _) ?_
      refine sp_X12_goesBy (4) (d := d + nR + 4) (by have q1 := lvl_is (gA G 204 0 ((gF G 12 0 105))); omega) (by omega) (hru) (show 0 ≤ c1 by omega) (show c1 + 100 * _ < _ by omega) ?_
      intro A2 c2 hr2
      refine pw_top (b := (goK (gA G 208 (0) ((gF G 12 (0) 105))) (gA G 204 (0) (gF (sF (uA (sF (uA G 269 (0) (A)) 12 (0) 104 (c)) 269 (0) (A1)) 12 (0) 104 (c1)) 12 (0) 105)) 1).1) (by first | rfl | simp (disch := decide) [gF_sF, gF_sA, gF_uA, gF_sD, gA_sF, gA_sA, gA_uA, gA_sD, gD_sF, gD_sA, gD_uA, gD_sD]) ?_
      replace hr2 : (A2, c2) = List.foldl ntM (A1, c1) _ := hr2
      have hclc2 : c1 ≤ c2 ∧ c2 ≤ c1 + 16 := by first | (have h9 := go_cnt hr2; omega) | (have h9 := rk_cnt hr2; omega) | (have h9 := tl_cnt hr2; omega)
      refine pw_iaddW r_12_tellsBy_110 ?_
      refine pw_iret r_12_tellsBy_111 rfl (Nat.le_refl _) ⟨rfl, ?_⟩
      rw [hn] at hr1
      first | (rw [hr1, ← List.foldl_append] at hr2; rw [tpm_abs, tpm_abs]; exact hP A2 c2 hr2) | (rw [tpm_abs]; exact hP A1 c1 hr1)
    refine pw_swd ?_
    refine pw_aload r_12_tellsBy_112 rfl ?_
    refine pw_iload r_12_tellsBy_113 rfl ?_
    refine pw_callS (av := [vI (k)]) (st := [vR 12 (0)]) (ls0 := [some (vI (k))]) r_12_tellsBy_114 rfl rfl rfl (Nat.le_refl _) ?_
    refine sp_X12_above  ?_
    refine pw_iload r_12_tellsBy_117 rfl ?_
    refine pw_callV (av := [vI (if k = 7 then 4 else if 1 < k then 1 else 0), vI (x)]) (st := []) (ls0 := [some (vR 12 (0)), some (vI (if k = 7 then 4 else if 1 < k then 1 else 0)), some (vI (x)), none]) r_12_tellsBy_118 rfl rfl rfl (Nat.le_refl _) ?_
    refine ihR (d := d) (by have q1 := lvl_is k; have q2 := lvl_is 0; have q3 := lvl_is 1; have q4 := lvl_is 4; split <;> (try split) <;> omega) (by split <;> (try split) <;> omega) (hru) (hbk) (by omega) (hkd) ?_
    intro A1 c1 hr1
    refine pw_iret r_12_tellsBy_121 rfl (Nat.le_refl _) ⟨rfl, ?_⟩
    have hg1 : tlK (gA G 208 0 ((gF G 12 0 105))) (gA G 210 0 ((gF G 12 0 105))) (gF G 12 0 105) (gA G 204 0 ((gF G 12 0 105))) (if k = 7 then (4 : Int) else if 1 < k then 1 else 0) x = tlK (gA G 208 0 ((gF G 12 0 105))) (gA G 210 0 ((gF G 12 0 105))) (gF G 12 0 105) (gA G 204 0 ((gF G 12 0 105))) k x := by
      by_cases e : k = 7
      · rw [if_pos e, e]; rfl
      · rw [if_neg e]
        have e2 : tlK (gA G 208 0 ((gF G 12 0 105))) (gA G 210 0 ((gF G 12 0 105))) (gF G 12 0 105) (gA G 204 0 ((gF G 12 0 105))) k x = tl0 (gA G 208 0 ((gF G 12 0 105))) (gA G 210 0 ((gF G 12 0 105))) (gF G 12 0 105) (gA G 204 0 ((gF G 12 0 105))) x := by unfold tlK; rw [if_neg (by omega), if_neg (by omega), if_neg (by omega)]
        rw [e2]
        split <;> rfl
    rw [hg1] at hr1 ⊢
    exact hP A1 c1 hr1
set_option maxRecDepth 10000 in
theorem sp_X12_act {l : Launch} {w : Wo} {d : Nat} {G : PH} {P : Option PV → PH → Prop} {p a x : Int} (hsz : 0 ≤ (gF G 12 0 17) ∧ (gF G 12 0 17) ≤ 150) (hkd : (0 ≤ p ∧ p < (gF G 12 0 17)) → 1 ≤ (gA G 204 0 (p)) ∧ (gA G 204 0 (p)) ≤ 7) (h1 : ¬ ((0 ≤ p ∧ p < (gF G 12 0 17)) ∧ 0 ≤ a ∧ a ≤ 2) → P (some (vI (-2000000000))) G) (h2 : ((0 ≤ p ∧ p < (gF G 12 0 17)) ∧ 0 ≤ a ∧ a ≤ 2) → ∀ A c, (A, c) = List.foldl ntM (gA G 269 0, 0) (evR (gA G 208 0 (p)) (gA G 210 0 (p)) p (gA G 204 0 (p)) a (gA G 204 0 (p)) x).2 → P (some (vI ((evR (gA G 208 0 (p)) (gA G 210 0 (p)) p (gA G 204 0 (p)) a (gA G 204 0 (p)) x).1))) (sF (uA (sF (sF G 12 0 104 0) 12 0 105 p) 269 0 (A)) 12 0 104 (c))) : PW l w M_X12_act (d + 14) 0 [some (vR 12 (0)), some (vI (p)), some (vI (a)), some (vI (x))] [] G P := by
  refine pw_aload r_12_act_0 rfl ?_
  refine pw_iload r_12_act_1 rfl ?_
  refine pw_callV (av := [vI (p)]) (st := []) (ls0 := [some (vR 12 (0)), some (vI (p))]) r_12_act_2 rfl rfl rfl (Nat.le_refl _) ?_
  refine sp_X12_isPerson  ?_
  refine pw_if_eqB r_12_act_5 (fun h05 => ?_) (fun h05 => ?_)
  · skip
    refine pw_const r_12_act_17 ?_
    refine pw_iret r_12_act_20 rfl (Nat.le_refl _) ⟨rfl, ?_⟩
    exact h1 (by omega)
  · skip
    refine pw_iload r_12_act_8 rfl ?_
    refine pw_const r_12_act_9 ?_
    refine pw_const r_12_act_10 ?_
    refine pw_callS (av := [vI (a), vI (0), vI (2)]) (st := []) (ls0 := [some (vI (a)), some (vI (0)), some (vI (2))]) r_12_act_11 rfl rfl rfl (Nat.le_refl _) ?_
    refine sp_X12_within  ?_
    refine pw_if_neB r_12_act_14 (fun h14 => ?_) (fun h14 => ?_)
    · skip
      have hk9 := hkd (by omega)
      refine pw_aload r_12_act_21 rfl ?_
      refine pw_const r_12_act_22 ?_
      refine pw_putI r_12_act_23 (by decide +kernel) fs_12_104 (by decide) ?_
      refine pw_aload r_12_act_26 rfl ?_
      refine pw_iload r_12_act_27 rfl ?_
      refine pw_putI r_12_act_28 (by decide +kernel) fs_12_105 (by decide) ?_
      refine pw_iload r_12_act_31 rfl ?_
      refine pw_if_ne r_12_act_32 (fun h32 => ?_) (fun h32 => ?_)
      · skip
        refine pw_iload r_12_act_49 rfl ?_
        refine pw_const r_12_act_50 ?_
        refine pw_icmp_ne r_12_act_51 (fun h51 => ?_) (fun h51 => ?_)
        · skip
          refine pw_aload r_12_act_68 rfl ?_
          refine pw_aload r_12_act_69 rfl ?_
          refine pw_getR r_12_act_70 fs_12_6 (by decide) ?_
          refine pw_iload r_12_act_73 rfl ?_
          refine pw_ialdv (v := gA G 204 (0) (p)) r_12_act_74 sh204 (by omega) (by omega) (by first | rfl | simp [gF_sF, gF_sA, gF_uA, gF_sD, gA_sF, gA_sA, gA_uA, gA_sD, gD_sF, gD_sA, gD_uA, gD_sD]) ?_
          refine pw_iload r_12_act_75 rfl ?_
          refine pw_callV (av := [vI (gA G 204 (0) (p)), vI (x)]) (st := []) (ls0 := [some (vR 12 (0)), some (vI (gA G 204 (0) (p))), some (vI (x)), none]) r_12_act_76 rfl rfl rfl (Nat.le_refl _) ?_
          refine sp_X12_tellsBy (4) (d := d) (by have q1 := lvl_is (gA G 204 0 (p)); omega) (by omega) (⟨show 0 ≤ p by omega, show p < 150 by omega⟩) (Int.le_refl 0) (by show (0 : Int) + 100 * 4 < _; decide) (hkd (by omega)) ?_
          intro A c hr
          refine pw_top (b := (tlK (gA G 208 (0) ((p))) (gA G 210 (0) ((p))) (p) (gA G 204 (0) ((p))) (gA G 204 (0) (p)) x).1) (by first | rfl | simp (disch := decide) [gF_sF, gF_sA, gF_uA, gF_sD, gA_sF, gA_sA, gA_uA, gA_sD, gD_sF, gD_sA, gD_uA, gD_sD]) ?_
          replace hr : (A, c) = List.foldl ntM (gA G 269 0, 0) _ := hr
          refine pw_iret r_12_act_79 rfl (Nat.le_refl _) ⟨rfl, ?_⟩
          first | (have ha0 : a = 0 := (by omega); subst ha0; exact h2 (by omega) A c hr) | (have ha0 : a = 1 := (by omega); subst ha0; exact h2 (by omega) A c hr) | (have ha0 : a = 2 := (by omega); subst ha0; exact h2 (by omega) A c hr)
        · skip
          refine pw_aload r_12_act_54 rfl ?_
          refine pw_aload r_12_act_55 rfl ?_
          refine pw_getR r_12_act_56 fs_12_6 (by decide) ?_
          refine pw_iload r_12_act_59 rfl ?_
          refine pw_ialdv (v := gA G 204 (0) (p)) r_12_act_60 sh204 (by omega) (by omega) (by first | rfl | simp [gF_sF, gF_sA, gF_uA, gF_sD, gA_sF, gA_sA, gA_uA, gA_sD, gD_sF, gD_sA, gD_uA, gD_sD]) ?_
          refine pw_iload r_12_act_61 rfl ?_
          refine pw_callV (av := [vI (gA G 204 (0) (p)), vI (x)]) (st := []) (ls0 := [some (vR 12 (0)), some (vI (gA G 204 (0) (p))), some (vI (x)), none]) r_12_act_62 rfl rfl rfl (Nat.le_refl _) ?_
          refine sp_X12_ranksBy (4) (d := d + 4) (by have q1 := lvl_is (gA G 204 0 (p)); omega) (by omega) (⟨show 0 ≤ p by omega, show p < 150 by omega⟩) (Int.le_refl 0) (by show (0 : Int) + 100 * 4 < _; decide) (hkd (by omega)) ?_
          intro A c hr
          refine pw_top (b := (rkK (gA G 208 (0) ((p))) (gA G 210 (0) ((p))) (gA G 204 (0) ((p))) (gA G 204 (0) (p)) x).1) (by first | rfl | simp (disch := decide) [gF_sF, gF_sA, gF_uA, gF_sD, gA_sF, gA_sA, gA_uA, gA_sD, gD_sF, gD_sA, gD_uA, gD_sD]) ?_
          replace hr : (A, c) = List.foldl ntM (gA G 269 0, 0) _ := hr
          refine pw_goto r_12_act_65 ?_
          refine pw_iret r_12_act_79 rfl (Nat.le_refl _) ⟨rfl, ?_⟩
          first | (have ha0 : a = 0 := (by omega); subst ha0; exact h2 (by omega) A c hr) | (have ha0 : a = 1 := (by omega); subst ha0; exact h2 (by omega) A c hr) | (have ha0 : a = 2 := (by omega); subst ha0; exact h2 (by omega) A c hr)
      · skip
        refine pw_aload r_12_act_35 rfl ?_
        refine pw_aload r_12_act_36 rfl ?_
        refine pw_getR r_12_act_37 fs_12_6 (by decide) ?_
        refine pw_iload r_12_act_40 rfl ?_
        refine pw_ialdv (v := gA G 204 (0) (p)) r_12_act_41 sh204 (by omega) (by omega) (by first | rfl | simp [gF_sF, gF_sA, gF_uA, gF_sD, gA_sF, gA_sA, gA_uA, gA_sD, gD_sF, gD_sA, gD_uA, gD_sD]) ?_
        refine pw_iload r_12_act_42 rfl ?_
        refine pw_callV (av := [vI (gA G 204 (0) (p)), vI (x)]) (st := []) (ls0 := [some (vR 12 (0)), some (vI (gA G 204 (0) (p))), some (vI (x))]) r_12_act_43 rfl rfl rfl (Nat.le_refl _) ?_
        refine sp_X12_goesBy (4) (d := d + 8) (by have q1 := lvl_is (gA G 204 0 (p)); omega) (by omega) (⟨show 0 ≤ p by omega, show p < 150 by omega⟩) (Int.le_refl 0) (by show (0 : Int) + 100 * 4 < _; decide) ?_
        intro A c hr
        refine pw_top (b := (goK (gA G 208 (0) ((p))) (gA G 204 (0) (p)) x).1) (by first | rfl | simp (disch := decide) [gF_sF, gF_sA, gF_uA, gF_sD, gA_sF, gA_sA, gA_uA, gA_sD, gD_sF, gD_sA, gD_uA, gD_sD]) ?_
        replace hr : (A, c) = List.foldl ntM (gA G 269 0, 0) _ := hr
        refine pw_goto r_12_act_46 ?_
        refine pw_iret r_12_act_79 rfl (Nat.le_refl _) ⟨rfl, ?_⟩
        first | (have ha0 : a = 0 := (by omega); subst ha0; exact h2 (by omega) A c hr) | (have ha0 : a = 1 := (by omega); subst ha0; exact h2 (by omega) A c hr) | (have ha0 : a = 2 := (by omega); subst ha0; exact h2 (by omega) A c hr)
    · skip
      refine pw_const r_12_act_17 ?_
      refine pw_iret r_12_act_20 rfl (Nat.le_refl _) ⟨rfl, ?_⟩
      exact h1 (by omega)
set_option maxRecDepth 10000 in
theorem sp_X11_act {l : Launch} {w : Wo} {d : Nat} {G : PH} {P : Option PV → PH → Prop} {p a x : Int} (hp : ∀ i, 0 ≤ i → i < (gF G 1 0 1) → gD G 30 0 i = some (3, i)) (hsz : 0 ≤ (gF G 1 0 1) ∧ (gF G 1 0 1) ≤ 150) (hkd : (0 ≤ p ∧ p < (gF G 1 0 1)) → 1 ≤ (gF G 3 (p) 1) ∧ (gF G 3 (p) 1) ≤ 7) (h1 : ¬ ((0 ≤ p ∧ p < (gF G 1 0 1)) ∧ 0 ≤ a ∧ a ≤ 2) → P (some (vI (-2000000000))) G) (h2 : ((0 ≤ p ∧ p < (gF G 1 0 1)) ∧ 0 ≤ a ∧ a ≤ 2) → ∀ A c, (A, c) = List.foldl nt24 (gA G 40 0, 0) (evR (gF G 3 p 3) (gF G 3 p 6) (gF G 3 p 0) (gF G 3 p 1) a (gF G 3 (p) 1) x).2 → P (some (vI ((evR (gF G 3 p 3) (gF G 3 p 6) (gF G 3 p 0) (gF G 3 p 1) a (gF G 3 (p) 1) x).1))) (sF (uA (sF G 1 0 17 0) 40 0 (A)) 1 0 17 (c))) : PW l w M_X11_act (d + 28) 0 [some (vR 11 (0)), some (vI (p)), some (vI (a)), some (vI (x))] [] G P := by
  refine pw_aload r_11_act_0 rfl ?_
  refine pw_getR r_11_act_1 fs_11_1 (by decide) ?_
  refine pw_iload r_11_act_4 rfl ?_
  refine pw_iload r_11_act_5 rfl ?_
  refine pw_iload r_11_act_6 rfl ?_
  refine pw_callV (av := [vI (p), vI (a), vI (x)]) (st := []) (ls0 := [some (vR 1 (0)), some (vI (p)), some (vI (a)), some (vI (x)), none]) r_11_act_7 rfl rfl rfl (Nat.le_refl _) ?_
  refine sp_X1_actOf (by first | assumption | exact hp | omega) (by first | assumption | exact hsz | omega) (by first | assumption | exact hkd | omega) ?_ ?_
  · skip
    intro q1
    refine pw_iret r_11_act_10 rfl (Nat.le_refl _) ⟨rfl, ?_⟩
    exact h1 q1
  · skip
    intro q1 A c q2
    refine pw_iret r_11_act_10 rfl (Nat.le_refl _) ⟨rfl, ?_⟩
    exact h2 q1 A c q2
