/-! the days of the class, as functions of the cells -/
def arvC (G : PH) (p : Int) : PH := if (gF G 3 (p) 8) = 1 ∧ (gF G 3 (p) 11) ≤ (gF G 1 0 2) then (if (gF G 3 (p) 10) = 16 then sF (sF (sF (sF G 3 p 8 (2)) 3 p 10 (-1)) 3 p 9 (gF G 1 0 2)) 3 p 11 (-1) else if (gF G 3 (p) 10) = 17 then sF (sF (sF (sF G 3 p 8 (3)) 3 p 10 (-1)) 3 p 9 (gF G 1 0 2)) 3 p 11 (-1) else if (gF G 1 0 3) < 400 then sF (sA (sA (sA (sA (sF (sF (sF (sF G 3 p 8 (0)) 3 p 10 ((gF G 3 (p) 10))) 3 p 9 (gF G 1 0 2)) 3 p 11 (-1)) 32 0 (gF G 1 0 3) p) 33 0 (gF G 1 0 3) (gF G 3 (p) 10)) 34 0 (gF G 1 0 3) (gF G 1 0 2)) 35 0 (gF G 1 0 3) (-1)) 1 0 3 ((gF G 1 0 3) + 1) else sF (sF (sF (sF G 3 p 8 (0)) 3 p 10 ((gF G 3 (p) 10))) 3 p 9 (gF G 1 0 2)) 3 p 11 (-1)) else G
noncomputable def worC (G : PH) (p : Int) : PH := if ((gF G 3 (p) 8) ≤ 1 ∧ 1 ≤ (gF G 3 (p) 6) ∧ (gF G 3 (p) 6) ≤ 9) ∧ (gA G 31 0 ((gF G 3 (p) 6))) ≠ 0 ∧ (gA G 31 0 ((gF G 3 (p) 6))) ≤ (gF G 1 0 2) - (gF G 3 (p) 7) then (if (gF G 3 (p) 6) = 9 then (sF (sF (sF (sF (uA (sF (sF G 3 p 6 ((gF G 3 (p) 6) + 1)) 3 p 7 (gF G 1 0 2)) 35 0 (filF (fun j0 => (gA G 32 0 (j0)) = p ∧ (gA G 35 0 (j0)) = -1) (fun j0 => (gF G 1 0 2)) (gA G 35 0) (gF G 1 0 3))) 3 (p) 8 (8)) 3 (p) 10 (-1)) 3 (p) 9 ((gF G 1 0 2))) 3 (p) 11 (-1)) else (sF (sF G 3 p 6 ((gF G 3 (p) 6) + 1)) 3 p 7 (gF G 1 0 2))) else G
def arvsC (G : PH) (n : Int) : PH := iterI (fun i H => arvC H i) n G
noncomputable def worsC (G : PH) (n : Int) : PH := iterI (fun i H => worC H i) n G
noncomputable def dayC (G : PH) : PH := worsC (arvsC (sF G 1 0 2 ((gF G 1 0 2) + 1)) (gF G 1 0 1)) (gF G 1 0 1)
noncomputable def daysC (G : PH) (n : Int) : PH := iterI (fun _ H => dayC H) n G
theorem arvs_s {G : PH} {i : Int} (h : 0 ≤ i) : arvsC G (i + 1) = arvC (arvsC G i) i := iter_s _ h _
theorem wors_s {G : PH} {i : Int} (h : 0 ≤ i) : worsC G (i + 1) = worC (worsC G i) i := iter_s _ h _
theorem days_s {G : PH} {i : Int} (h : 0 ≤ i) : daysC G (i + 1) = dayC (daysC G i) := iter_s _ h _
/-- what the class's steps need, and keep -/
def CR (G : PH) : Prop := (0 ≤ (gF G 1 0 1) ∧ (gF G 1 0 1) ≤ 150) ∧ (∀ i, 0 ≤ i → i < (gF G 1 0 1) → gD G 30 0 i = some (3, i)) ∧ (0 ≤ (gF G 1 0 3) ∧ (gF G 1 0 3) ≤ 400) ∧ (∀ i, 0 ≤ i → i < (gF G 1 0 1) → (gF G 3 (i) 0) = i) ∧ (0 ≤ (gF G 1 0 2) ∧ (gF G 1 0 2) ≤ 600) ∧ (∀ i, 0 ≤ i → i < (gF G 1 0 1) → 0 ≤ (gF G 3 (i) 7) ∧ (gF G 3 (i) 7) ≤ 600)
theorem arv_same (G : PH) (p : Int) : gF (arvC G p) 1 0 1 = (gF G 1 0 1) ∧ gF (arvC G p) 1 0 2 = (gF G 1 0 2) := by
  unfold arvC
  repeat' split
  all_goals exact ⟨rfl, rfl⟩
theorem wor_same (G : PH) (p : Int) : gF (worC G p) 1 0 1 = (gF G 1 0 1) ∧ gF (worC G p) 1 0 2 = (gF G 1 0 2) := by
  unfold worC
  repeat' split
  all_goals exact ⟨rfl, rfl⟩
theorem CR_arv {G : PH} {p : Int} (h : CR G) : CR (arvC G p) := by
  obtain ⟨h1, h2, h3, h4, h5, h6⟩ := h
  unfold arvC
  split
  · split
    · exact ⟨h1, h2, h3, h4, h5, h6⟩
    · split
      · exact ⟨h1, h2, h3, h4, h5, h6⟩
      · split
        · exact ⟨h1, h2, (show 0 ≤ (gF G 1 0 3) + 1 ∧ (gF G 1 0 3) + 1 ≤ 400 by omega), h4, h5, h6⟩
        · exact ⟨h1, h2, h3, h4, h5, h6⟩
  · exact ⟨h1, h2, h3, h4, h5, h6⟩
theorem CR_wor {G : PH} {p : Int} (h : CR G) : CR (worC G p) := by
  obtain ⟨h1, h2, h3, h4, h5, h6⟩ := h
  have k6 : ∀ i, 0 ≤ i → i < (gF G 1 0 1) → 0 ≤ gF (sF (sF G 3 p 6 ((gF G 3 (p) 6) + 1)) 3 p 7 (gF G 1 0 2)) 3 i 7 ∧ gF (sF (sF G 3 p 6 ((gF G 3 (p) 6) + 1)) 3 p 7 (gF G 1 0 2)) 3 i 7 ≤ 600 := fun i a b => by
    by_cases e : i = p
    · subst e
      exact (show 0 ≤ gF (sF (sF G 3 i 6 ((gF G 3 (i) 6) + 1)) 3 i 7 (gF G 1 0 2)) 3 i 7 ∧ gF (sF (sF G 3 i 6 ((gF G 3 (i) 6) + 1)) 3 i 7 (gF G 1 0 2)) 3 i 7 ≤ 600 by simp (disch := decide) [gF_sF]; exact h5)
    · have q := h6 i a b
      simp (disch := decide) [gF_sF, e]
      exact q
  unfold worC
  split
  · split
    · exact ⟨h1, h2, h3, h4, h5, k6⟩
    · exact ⟨h1, h2, h3, h4, h5, k6⟩
  · exact ⟨h1, h2, h3, h4, h5, h6⟩
theorem arvs_ok {G : PH} {n : Int} (hn : 0 ≤ n) (h : CR G) : CR (arvsC G n) ∧ gF (arvsC G n) 1 0 1 = (gF G 1 0 1) ∧ gF (arvsC G n) 1 0 2 = (gF G 1 0 2) :=
  iter_inv (p := fun H => CR H ∧ gF H 1 0 1 = (gF G 1 0 1) ∧ gF H 1 0 2 = (gF G 1 0 2)) hn ⟨h, rfl, rfl⟩ (fun i s _ _ q => ⟨CR_arv q.1, (arv_same s i).1.trans q.2.1, (arv_same s i).2.trans q.2.2⟩)
theorem wors_ok {G : PH} {n : Int} (hn : 0 ≤ n) (h : CR G) : CR (worsC G n) ∧ gF (worsC G n) 1 0 1 = (gF G 1 0 1) ∧ gF (worsC G n) 1 0 2 = (gF G 1 0 2) :=
  iter_inv (p := fun H => CR H ∧ gF H 1 0 1 = (gF G 1 0 1) ∧ gF H 1 0 2 = (gF G 1 0 2)) hn ⟨h, rfl, rfl⟩ (fun i s _ _ q => ⟨CR_wor q.1, (wor_same s i).1.trans q.2.1, (wor_same s i).2.trans q.2.2⟩)
theorem CR_next {G : PH} (h : CR G) (hd : (gF G 1 0 2) < 600) : CR (sF G 1 0 2 ((gF G 1 0 2) + 1)) :=
  ⟨h.1, h.2.1, h.2.2.1, h.2.2.2.1, (show 0 ≤ (gF G 1 0 2) + 1 ∧ (gF G 1 0 2) + 1 ≤ 600 by have := h.2.2.2.2.1; omega), h.2.2.2.2.2⟩
theorem day_ok {G : PH} (h : CR G) (hd : (gF G 1 0 2) < 600) : CR (dayC G) ∧ gF (dayC G) 1 0 1 = (gF G 1 0 1) ∧ gF (dayC G) 1 0 2 = (gF G 1 0 2) + 1 := by
  have a := arvs_ok h.1.1 (CR_next h hd)
  have b := wors_ok h.1.1 a.1
  exact ⟨b.1, b.2.1.trans a.2.1, b.2.2.trans a.2.2⟩
theorem days_ok {G : PH} {n : Int} (hn : 0 ≤ n) (h : CR G) (hd : (gF G 1 0 2) + n ≤ 600) : CR (daysC G n) ∧ gF (daysC G n) 1 0 1 = (gF G 1 0 1) ∧ gF (daysC G n) 1 0 2 = (gF G 1 0 2) + n := by
  refine nat_ind (p := fun m => m ≤ n → CR (daysC G m) ∧ gF (daysC G m) 1 0 1 = (gF G 1 0 1) ∧ gF (daysC G m) 1 0 2 = (gF G 1 0 2) + m) (fun _ => ⟨h, rfl, (Int.add_zero _).symm⟩) (fun m hm ih hmn => ?_) n hn (Int.le_refl _)
  have q := ih (by omega)
  have r := day_ok q.1 (by omega)
  rw [days_s hm]
  exact ⟨r.1, r.2.1.trans q.2.1, by rw [r.2.2]; omega⟩

theorem wd_m1_67 : Cond.methodLink "NameRolls$Crowd" 67 M_X1_worsen.1 ∈ UW := UW3_at 49 (by decide +kernel) rfl
theorem wd_s1_worsen : Cond.selects M_X1_worsen.1.cls M_X1_worsen.1 M_X1_worsen.1 ∈ UW := UWp_at 2 (by decide +kernel) rfl
theorem wd_m1_63 : Cond.methodLink "NameRolls$Crowd" 63 M_X1_arrive.1 ∈ UW := UW3_at 37 (by decide +kernel) rfl
theorem wd_s1_arrive : Cond.selects M_X1_arrive.1.cls M_X1_arrive.1 M_X1_arrive.1 ∈ UW := UWp_at 0 (by decide +kernel) rfl
theorem wd_m11_82 : Cond.methodLink "NameRolls" 82 M_X1_pass.1 ∈ UW := UW3_at 30 (by decide +kernel) rfl
theorem wd_s1_pass : Cond.selects M_X1_pass.1.cls M_X1_pass.1 M_X1_pass.1 ∈ UW := UW3_at 32 (by decide +kernel) rfl
theorem r_1_arrive_0 : RA M_X1_arrive 0 1 1 := Or.inl ⟨1, by decide +kernel, rfl, rfl⟩
theorem r_1_arrive_1 : RB M_X1_arrive 1 .ifnull 23 4 := ⟨22, by decide +kernel, rfl, rfl⟩
theorem r_1_arrive_4 : RA M_X1_arrive 4 1 5 := Or.inl ⟨1, by decide +kernel, rfl, rfl⟩
theorem r_1_arrive_5 : RG M_X1_arrive 5 3 8 8 := ⟨70, _, by decide +kernel, rfl, by decide, wd_f1_70, rfl, rfl⟩
theorem r_1_arrive_8 : RC M_X1_arrive 8 1 9 := ⟨⟨by decide, by decide⟩, Or.inl ⟨by decide +kernel, rfl⟩⟩
theorem r_1_arrive_9 : RB M_X1_arrive 9 (.if_icmp .ne) 23 12 := ⟨14, by decide +kernel, rfl, rfl⟩
theorem r_1_arrive_23 : RW M_X1_arrive 23 .return_ 24 1 := ⟨by decide +kernel, rfl⟩
theorem r_1_arrive_12 : RA M_X1_arrive 12 1 13 := Or.inl ⟨1, by decide +kernel, rfl, rfl⟩
theorem r_1_arrive_13 : RG M_X1_arrive 13 3 11 16 := ⟨73, _, by decide +kernel, rfl, by decide, wd_f1_73, rfl, rfl⟩
theorem r_1_arrive_16 : RA M_X1_arrive 16 0 17 := Or.inl ⟨0, by decide +kernel, rfl, rfl⟩
theorem r_1_arrive_17 : RG M_X1_arrive 17 1 2 20 := ⟨60, _, by decide +kernel, rfl, by decide, wd_f1_60, rfl, rfl⟩
theorem r_1_arrive_20 : RB M_X1_arrive 20 (.if_icmp .le) 24 23 := ⟨4, by decide +kernel, rfl, rfl⟩
theorem r_1_arrive_24 : RA M_X1_arrive 24 1 25 := Or.inl ⟨1, by decide +kernel, rfl, rfl⟩
theorem r_1_arrive_25 : RG M_X1_arrive 25 3 10 28 := ⟨76, _, by decide +kernel, rfl, by decide, wd_f1_76, rfl, rfl⟩
theorem r_1_arrive_28 : RC M_X1_arrive 28 16 30 := ⟨⟨by decide, by decide⟩, Or.inr (Or.inl ⟨by decide +kernel, by decide, rfl⟩)⟩
theorem r_1_arrive_30 : RB M_X1_arrive 30 (.if_icmp .ne) 46 33 := ⟨16, by decide +kernel, rfl, rfl⟩
theorem r_1_arrive_46 : RA M_X1_arrive 46 1 47 := Or.inl ⟨1, by decide +kernel, rfl, rfl⟩
theorem r_1_arrive_47 : RG M_X1_arrive 47 3 10 50 := ⟨76, _, by decide +kernel, rfl, by decide, wd_f1_76, rfl, rfl⟩
theorem r_1_arrive_50 : RC M_X1_arrive 50 17 52 := ⟨⟨by decide, by decide⟩, Or.inr (Or.inl ⟨by decide +kernel, by decide, rfl⟩)⟩
theorem r_1_arrive_52 : RB M_X1_arrive 52 (.if_icmp .ne) 68 55 := ⟨16, by decide +kernel, rfl, rfl⟩
theorem r_1_arrive_68 : RA M_X1_arrive 68 1 69 := Or.inl ⟨1, by decide +kernel, rfl, rfl⟩
theorem r_1_arrive_69 : RC M_X1_arrive 69 0 70 := ⟨⟨by decide, by decide⟩, Or.inl ⟨by decide +kernel, rfl⟩⟩
theorem r_1_arrive_70 : RA M_X1_arrive 70 1 71 := Or.inl ⟨1, by decide +kernel, rfl, rfl⟩
theorem r_1_arrive_71 : RG M_X1_arrive 71 3 10 74 := ⟨76, _, by decide +kernel, rfl, by decide, wd_f1_76, rfl, rfl⟩
theorem r_1_arrive_74 : RA M_X1_arrive 74 0 75 := Or.inl ⟨0, by decide +kernel, rfl, rfl⟩
theorem r_1_arrive_75 : RG M_X1_arrive 75 1 2 78 := ⟨60, _, by decide +kernel, rfl, by decide, wd_f1_60, rfl, rfl⟩
theorem r_1_arrive_78 : RKv M_X1_arrive M_X3_enter 78 3 3 81 := ⟨81, by decide +kernel, wd_m1_81, ok_M_X3_enter, wd_s3_enter, rfl⟩
theorem r_1_arrive_81 : RA M_X1_arrive 81 0 82 := Or.inl ⟨0, by decide +kernel, rfl, rfl⟩
theorem r_1_arrive_82 : RA M_X1_arrive 82 1 83 := Or.inl ⟨1, by decide +kernel, rfl, rfl⟩
theorem r_1_arrive_83 : RKv M_X1_arrive M_X1_beginStay 83 1 1 86 := ⟨85, by decide +kernel, wd_m1_85, ok_M_X1_beginStay, wd_s1_beginStay, rfl⟩
theorem r_1_arrive_86 : RW M_X1_arrive 86 .return_ 87 1 := ⟨by decide +kernel, rfl⟩
theorem r_1_arrive_55 : RA M_X1_arrive 55 1 56 := Or.inl ⟨1, by decide +kernel, rfl, rfl⟩
theorem r_1_arrive_56 : RC M_X1_arrive 56 3 57 := ⟨⟨by decide, by decide⟩, Or.inl ⟨by decide +kernel, rfl⟩⟩
theorem r_1_arrive_57 : RC M_X1_arrive 57 (-1) 58 := ⟨⟨by decide, by decide⟩, Or.inl ⟨by decide +kernel, rfl⟩⟩
theorem r_1_arrive_58 : RA M_X1_arrive 58 0 59 := Or.inl ⟨0, by decide +kernel, rfl, rfl⟩
theorem r_1_arrive_59 : RG M_X1_arrive 59 1 2 62 := ⟨60, _, by decide +kernel, rfl, by decide, wd_f1_60, rfl, rfl⟩
theorem r_1_arrive_62 : RKv M_X1_arrive M_X3_enter 62 3 3 65 := ⟨81, by decide +kernel, wd_m1_81, ok_M_X3_enter, wd_s3_enter, rfl⟩
theorem r_1_arrive_65 : RB M_X1_arrive 65 .goto 86 68 := ⟨21, by decide +kernel, rfl, rfl⟩
theorem r_1_arrive_33 : RA M_X1_arrive 33 1 34 := Or.inl ⟨1, by decide +kernel, rfl, rfl⟩
theorem r_1_arrive_34 : RC M_X1_arrive 34 2 35 := ⟨⟨by decide, by decide⟩, Or.inl ⟨by decide +kernel, rfl⟩⟩
theorem r_1_arrive_35 : RC M_X1_arrive 35 (-1) 36 := ⟨⟨by decide, by decide⟩, Or.inl ⟨by decide +kernel, rfl⟩⟩
theorem r_1_arrive_36 : RA M_X1_arrive 36 0 37 := Or.inl ⟨0, by decide +kernel, rfl, rfl⟩
theorem r_1_arrive_37 : RG M_X1_arrive 37 1 2 40 := ⟨60, _, by decide +kernel, rfl, by decide, wd_f1_60, rfl, rfl⟩
theorem r_1_arrive_40 : RKv M_X1_arrive M_X3_enter 40 3 3 43 := ⟨81, by decide +kernel, wd_m1_81, ok_M_X3_enter, wd_s3_enter, rfl⟩
theorem r_1_arrive_43 : RB M_X1_arrive 43 .goto 86 46 := ⟨43, by decide +kernel, rfl, rfl⟩
theorem r_1_worsen_0 : RA M_X1_worsen 0 1 1 := Or.inl ⟨1, by decide +kernel, rfl, rfl⟩
theorem r_1_worsen_1 : RB M_X1_worsen 1 .ifnull 25 4 := ⟨24, by decide +kernel, rfl, rfl⟩
theorem r_1_worsen_4 : RA M_X1_worsen 4 1 5 := Or.inl ⟨1, by decide +kernel, rfl, rfl⟩
theorem r_1_worsen_5 : RG M_X1_worsen 5 3 8 8 := ⟨70, _, by decide +kernel, rfl, by decide, wd_f1_70, rfl, rfl⟩
theorem r_1_worsen_8 : RC M_X1_worsen 8 1 9 := ⟨⟨by decide, by decide⟩, Or.inl ⟨by decide +kernel, rfl⟩⟩
theorem r_1_worsen_9 : RB M_X1_worsen 9 (.if_icmp .gt) 25 12 := ⟨16, by decide +kernel, rfl, rfl⟩
theorem r_1_worsen_25 : RW M_X1_worsen 25 .return_ 26 1 := ⟨by decide +kernel, rfl⟩
theorem r_1_worsen_12 : RA M_X1_worsen 12 1 13 := Or.inl ⟨1, by decide +kernel, rfl, rfl⟩
theorem r_1_worsen_13 : RG M_X1_worsen 13 3 6 16 := ⟨88, _, by decide +kernel, rfl, by decide, wd_f1_88, rfl, rfl⟩
theorem r_1_worsen_16 : RC M_X1_worsen 16 1 17 := ⟨⟨by decide, by decide⟩, Or.inl ⟨by decide +kernel, rfl⟩⟩
theorem r_1_worsen_17 : RC M_X1_worsen 17 9 19 := ⟨⟨by decide, by decide⟩, Or.inr (Or.inl ⟨by decide +kernel, by decide, rfl⟩)⟩
theorem r_1_worsen_19 : RKs M_X1_worsen M_X11_within 19 3 22 := ⟨56, by decide +kernel, Or.inr (by decide +kernel), ok_M_X11_within, rfl⟩
theorem r_1_worsen_22 : RB M_X1_worsen 22 (.ifCond .ne) 26 25 := ⟨4, by decide +kernel, rfl, rfl⟩
theorem r_1_worsen_26 : RA M_X1_worsen 26 0 27 := Or.inl ⟨0, by decide +kernel, rfl, rfl⟩
theorem r_1_worsen_27 : RG M_X1_worsen 27 1 5 30 := ⟨17, _, by decide +kernel, rfl, by decide, wd_f1_17, rfl, rfl⟩
theorem r_1_worsen_30 : RA M_X1_worsen 30 1 31 := Or.inl ⟨1, by decide +kernel, rfl, rfl⟩
theorem r_1_worsen_31 : RG M_X1_worsen 31 3 6 34 := ⟨88, _, by decide +kernel, rfl, by decide, wd_f1_88, rfl, rfl⟩
theorem r_1_worsen_34 : RW M_X1_worsen 34 .iaload 35 1 := ⟨by decide +kernel, rfl⟩
theorem r_1_worsen_35 : RS M_X1_worsen 35 2 36 := ⟨by decide, Or.inl ⟨2, by decide +kernel, rfl, rfl⟩⟩
theorem r_1_worsen_36 : RL M_X1_worsen 36 2 37 := Or.inl ⟨2, by decide +kernel, rfl, rfl⟩
theorem r_1_worsen_37 : RB M_X1_worsen 37 (.ifCond .eq) 53 40 := ⟨16, by decide +kernel, rfl, rfl⟩
theorem r_1_worsen_53 : RW M_X1_worsen 53 .return_ 54 1 := ⟨by decide +kernel, rfl⟩
theorem r_1_worsen_40 : RA M_X1_worsen 40 0 41 := Or.inl ⟨0, by decide +kernel, rfl, rfl⟩
theorem r_1_worsen_41 : RG M_X1_worsen 41 1 2 44 := ⟨60, _, by decide +kernel, rfl, by decide, wd_f1_60, rfl, rfl⟩
theorem r_1_worsen_44 : RA M_X1_worsen 44 1 45 := Or.inl ⟨1, by decide +kernel, rfl, rfl⟩
theorem r_1_worsen_45 : RG M_X1_worsen 45 3 7 48 := ⟨91, _, by decide +kernel, rfl, by decide, wd_f1_91, rfl, rfl⟩
theorem r_1_worsen_48 : RW M_X1_worsen 48 .isub 49 1 := ⟨by decide +kernel, rfl⟩
theorem r_1_worsen_49 : RL M_X1_worsen 49 2 50 := Or.inl ⟨2, by decide +kernel, rfl, rfl⟩
theorem r_1_worsen_50 : RB M_X1_worsen 50 (.if_icmp .ge) 54 53 := ⟨4, by decide +kernel, rfl, rfl⟩
theorem r_1_worsen_54 : RA M_X1_worsen 54 1 55 := Or.inl ⟨1, by decide +kernel, rfl, rfl⟩
theorem r_1_worsen_55 : RW M_X1_worsen 55 .dup 56 1 := ⟨by decide +kernel, rfl⟩
theorem r_1_worsen_56 : RG M_X1_worsen 56 3 6 59 := ⟨88, _, by decide +kernel, rfl, by decide, wd_f1_88, rfl, rfl⟩
theorem r_1_worsen_59 : RC M_X1_worsen 59 1 60 := ⟨⟨by decide, by decide⟩, Or.inl ⟨by decide +kernel, rfl⟩⟩
theorem r_1_worsen_60 : RW M_X1_worsen 60 .iadd 61 1 := ⟨by decide +kernel, rfl⟩
theorem r_1_worsen_61 : RP M_X1_worsen 61 3 6 64 := ⟨88, _, by decide +kernel, rfl, by decide, wd_f1_88, rfl, Or.inl rfl, rfl⟩
theorem r_1_worsen_64 : RA M_X1_worsen 64 1 65 := Or.inl ⟨1, by decide +kernel, rfl, rfl⟩
theorem r_1_worsen_65 : RA M_X1_worsen 65 0 66 := Or.inl ⟨0, by decide +kernel, rfl, rfl⟩
theorem r_1_worsen_66 : RG M_X1_worsen 66 1 2 69 := ⟨60, _, by decide +kernel, rfl, by decide, wd_f1_60, rfl, rfl⟩
theorem r_1_worsen_69 : RP M_X1_worsen 69 3 7 72 := ⟨91, _, by decide +kernel, rfl, by decide, wd_f1_91, rfl, Or.inl rfl, rfl⟩
theorem r_1_worsen_72 : RA M_X1_worsen 72 1 73 := Or.inl ⟨1, by decide +kernel, rfl, rfl⟩
theorem r_1_worsen_73 : RG M_X1_worsen 73 3 6 76 := ⟨88, _, by decide +kernel, rfl, by decide, wd_f1_88, rfl, rfl⟩
theorem r_1_worsen_76 : RC M_X1_worsen 76 10 78 := ⟨⟨by decide, by decide⟩, Or.inr (Or.inl ⟨by decide +kernel, by decide, rfl⟩)⟩
theorem r_1_worsen_78 : RB M_X1_worsen 78 (.if_icmp .ne) 88 81 := ⟨10, by decide +kernel, rfl, rfl⟩
theorem r_1_worsen_88 : RW M_X1_worsen 88 .return_ 89 1 := ⟨by decide +kernel, rfl⟩
theorem r_1_worsen_81 : RA M_X1_worsen 81 0 82 := Or.inl ⟨0, by decide +kernel, rfl, rfl⟩
theorem r_1_worsen_82 : RA M_X1_worsen 82 1 83 := Or.inl ⟨1, by decide +kernel, rfl, rfl⟩
theorem r_1_worsen_83 : RC M_X1_worsen 83 8 85 := ⟨⟨by decide, by decide⟩, Or.inr (Or.inl ⟨by decide +kernel, by decide, rfl⟩)⟩
theorem r_1_worsen_85 : RKv M_X1_worsen M_X1_leave 85 2 1 88 := ⟨94, by decide +kernel, wd_m1_94, ok_M_X1_leave, wd_s1_leave, rfl⟩
theorem r_1_pass_0 : RL M_X1_pass 0 1 1 := Or.inl ⟨1, by decide +kernel, rfl, rfl⟩
theorem r_1_pass_1 : RC M_X1_pass 1 1 2 := ⟨⟨by decide, by decide⟩, Or.inl ⟨by decide +kernel, rfl⟩⟩
theorem r_1_pass_2 : RC M_X1_pass 2 60 4 := ⟨⟨by decide, by decide⟩, Or.inr (Or.inl ⟨by decide +kernel, by decide, rfl⟩)⟩
theorem r_1_pass_4 : RKs M_X1_pass M_X11_within 4 3 7 := ⟨56, by decide +kernel, Or.inr (by decide +kernel), ok_M_X11_within, rfl⟩
theorem r_1_pass_7 : RB M_X1_pass 7 (.ifCond .eq) 22 10 := ⟨15, by decide +kernel, rfl, rfl⟩
theorem r_1_pass_22 : RC M_X1_pass 22 (-1) 23 := ⟨⟨by decide, by decide⟩, Or.inl ⟨by decide +kernel, rfl⟩⟩
theorem r_1_pass_23 : RW M_X1_pass 23 .ireturn 24 1 := ⟨by decide +kernel, rfl⟩
theorem r_1_pass_10 : RA M_X1_pass 10 0 11 := Or.inl ⟨0, by decide +kernel, rfl, rfl⟩
theorem r_1_pass_11 : RG M_X1_pass 11 1 2 14 := ⟨60, _, by decide +kernel, rfl, by decide, wd_f1_60, rfl, rfl⟩
theorem r_1_pass_14 : RL M_X1_pass 14 1 15 := Or.inl ⟨1, by decide +kernel, rfl, rfl⟩
theorem r_1_pass_15 : RW M_X1_pass 15 .iadd 16 1 := ⟨by decide +kernel, rfl⟩
theorem r_1_pass_16 : RC M_X1_pass 16 600 19 := ⟨⟨by decide, by decide⟩, Or.inr (Or.inr (Or.inl ⟨by decide +kernel, by decide, rfl⟩))⟩
theorem r_1_pass_19 : RB M_X1_pass 19 (.if_icmp .le) 24 22 := ⟨5, by decide +kernel, rfl, rfl⟩
theorem r_1_pass_24 : RC M_X1_pass 24 0 25 := ⟨⟨by decide, by decide⟩, Or.inl ⟨by decide +kernel, rfl⟩⟩
theorem r_1_pass_25 : RS M_X1_pass 25 2 26 := ⟨by decide, Or.inl ⟨2, by decide +kernel, rfl, rfl⟩⟩
theorem r_1_pass_26 : RL M_X1_pass 26 2 27 := Or.inl ⟨2, by decide +kernel, rfl, rfl⟩
theorem r_1_pass_27 : RL M_X1_pass 27 1 28 := Or.inl ⟨1, by decide +kernel, rfl, rfl⟩
theorem r_1_pass_28 : RB M_X1_pass 28 (.if_icmp .ge) 99 31 := ⟨71, by decide +kernel, rfl, rfl⟩
theorem r_1_pass_99 : RA M_X1_pass 99 0 100 := Or.inl ⟨0, by decide +kernel, rfl, rfl⟩
theorem r_1_pass_100 : RG M_X1_pass 100 1 2 103 := ⟨60, _, by decide +kernel, rfl, by decide, wd_f1_60, rfl, rfl⟩
theorem r_1_pass_103 : RW M_X1_pass 103 .ireturn 104 1 := ⟨by decide +kernel, rfl⟩
theorem r_1_pass_31 : RA M_X1_pass 31 0 32 := Or.inl ⟨0, by decide +kernel, rfl, rfl⟩
theorem r_1_pass_32 : RW M_X1_pass 32 .dup 33 1 := ⟨by decide +kernel, rfl⟩
theorem r_1_pass_33 : RG M_X1_pass 33 1 2 36 := ⟨60, _, by decide +kernel, rfl, by decide, wd_f1_60, rfl, rfl⟩
theorem r_1_pass_36 : RC M_X1_pass 36 1 37 := ⟨⟨by decide, by decide⟩, Or.inl ⟨by decide +kernel, rfl⟩⟩
theorem r_1_pass_37 : RW M_X1_pass 37 .iadd 38 1 := ⟨by decide +kernel, rfl⟩
theorem r_1_pass_38 : RP M_X1_pass 38 1 2 41 := ⟨60, _, by decide +kernel, rfl, by decide, wd_f1_60, rfl, Or.inl rfl, rfl⟩
theorem r_1_pass_41 : RC M_X1_pass 41 0 42 := ⟨⟨by decide, by decide⟩, Or.inl ⟨by decide +kernel, rfl⟩⟩
theorem r_1_pass_42 : RS M_X1_pass 42 3 43 := ⟨by decide, Or.inl ⟨3, by decide +kernel, rfl, rfl⟩⟩
theorem r_1_pass_43 : RL M_X1_pass 43 3 44 := Or.inl ⟨3, by decide +kernel, rfl, rfl⟩
theorem r_1_pass_44 : RA M_X1_pass 44 0 45 := Or.inl ⟨0, by decide +kernel, rfl, rfl⟩
theorem r_1_pass_45 : RG M_X1_pass 45 1 1 48 := ⟨52, _, by decide +kernel, rfl, by decide, wd_f1_52, rfl, rfl⟩
theorem r_1_pass_48 : RB M_X1_pass 48 (.if_icmp .ge) 67 51 := ⟨19, by decide +kernel, rfl, rfl⟩
theorem r_1_pass_67 : RC M_X1_pass 67 0 68 := ⟨⟨by decide, by decide⟩, Or.inl ⟨by decide +kernel, rfl⟩⟩
theorem r_1_pass_68 : RS M_X1_pass 68 3 69 := ⟨by decide, Or.inl ⟨3, by decide +kernel, rfl, rfl⟩⟩
theorem r_1_pass_69 : RL M_X1_pass 69 3 70 := Or.inl ⟨3, by decide +kernel, rfl, rfl⟩
theorem r_1_pass_70 : RA M_X1_pass 70 0 71 := Or.inl ⟨0, by decide +kernel, rfl, rfl⟩
theorem r_1_pass_71 : RG M_X1_pass 71 1 1 74 := ⟨52, _, by decide +kernel, rfl, by decide, wd_f1_52, rfl, rfl⟩
theorem r_1_pass_74 : RB M_X1_pass 74 (.if_icmp .ge) 93 77 := ⟨19, by decide +kernel, rfl, rfl⟩
theorem r_1_pass_93 : RI M_X1_pass 93 2 1 96 := ⟨by decide, by decide +kernel, rfl⟩
theorem r_1_pass_96 : RB M_X1_pass 96 .goto 26 99 := ⟨(-70), by decide +kernel, rfl, rfl⟩
theorem r_1_pass_77 : RA M_X1_pass 77 0 78 := Or.inl ⟨0, by decide +kernel, rfl, rfl⟩
theorem r_1_pass_78 : RA M_X1_pass 78 0 79 := Or.inl ⟨0, by decide +kernel, rfl, rfl⟩
theorem r_1_pass_79 : RG M_X1_pass 79 1 0 82 := ⟨13, _, by decide +kernel, rfl, by decide, wd_f1_13, rfl, rfl⟩
theorem r_1_pass_82 : RL M_X1_pass 82 3 83 := Or.inl ⟨3, by decide +kernel, rfl, rfl⟩
theorem r_1_pass_83 : RW M_X1_pass 83 .aaload 84 1 := ⟨by decide +kernel, rfl⟩
theorem r_1_pass_84 : RKv M_X1_pass M_X1_worsen 84 1 1 87 := ⟨67, by decide +kernel, wd_m1_67, ok_M_X1_worsen, wd_s1_worsen, rfl⟩
theorem r_1_pass_87 : RI M_X1_pass 87 3 1 90 := ⟨by decide, by decide +kernel, rfl⟩
theorem r_1_pass_90 : RB M_X1_pass 90 .goto 69 93 := ⟨(-21), by decide +kernel, rfl, rfl⟩
theorem r_1_pass_51 : RA M_X1_pass 51 0 52 := Or.inl ⟨0, by decide +kernel, rfl, rfl⟩
theorem r_1_pass_52 : RA M_X1_pass 52 0 53 := Or.inl ⟨0, by decide +kernel, rfl, rfl⟩
theorem r_1_pass_53 : RG M_X1_pass 53 1 0 56 := ⟨13, _, by decide +kernel, rfl, by decide, wd_f1_13, rfl, rfl⟩
theorem r_1_pass_56 : RL M_X1_pass 56 3 57 := Or.inl ⟨3, by decide +kernel, rfl, rfl⟩
theorem r_1_pass_57 : RW M_X1_pass 57 .aaload 58 1 := ⟨by decide +kernel, rfl⟩
theorem r_1_pass_58 : RKv M_X1_pass M_X1_arrive 58 1 1 61 := ⟨63, by decide +kernel, wd_m1_63, ok_M_X1_arrive, wd_s1_arrive, rfl⟩
theorem r_1_pass_61 : RI M_X1_pass 61 3 1 64 := ⟨by decide, by decide +kernel, rfl⟩
theorem r_1_pass_64 : RB M_X1_pass 64 .goto 43 67 := ⟨(-21), by decide +kernel, rfl, rfl⟩
theorem r_11_days_0 : RA M_X11_days 0 0 1 := Or.inl ⟨0, by decide +kernel, rfl, rfl⟩
theorem r_11_days_1 : RG M_X11_days 1 11 1 4 := ⟨21, _, by decide +kernel, rfl, by decide, wd_f11_21, rfl, rfl⟩
theorem r_11_days_4 : RL M_X11_days 4 1 5 := Or.inl ⟨1, by decide +kernel, rfl, rfl⟩
theorem r_11_days_5 : RKv M_X11_days M_X1_pass 5 1 1 8 := ⟨82, by decide +kernel, wd_m11_82, ok_M_X1_pass, wd_s1_pass, rfl⟩
theorem r_11_days_8 : RW M_X11_days 8 .ireturn 9 1 := ⟨by decide +kernel, rfl⟩
set_option maxRecDepth 10000 in
theorem sp_X1_arrive {l : Launch} {w : Wo} {d : Nat} {G : PH} {P : Option PV → PH → Prop} {p : Int} (hcr : CR G) (hp0 : 0 ≤ p ∧ p < (gF G 1 0 1)) (hP : P none (arvC G p)) : PW l w M_X1_arrive (d + 1) 0 [some (vR 1 (0)), some (vR 3 (p))] [] G P := by
  have hst : 0 ≤ (gF G 1 0 3) ∧ (gF G 1 0 3) ≤ 400 := hcr.2.2.1
  have hnum : (gF G 3 (p) 0) = p := hcr.2.2.2.1 p hp0.1 hp0.2
  have hdy : 0 ≤ (gF G 1 0 2) ∧ (gF G 1 0 2) ≤ 600 := hcr.2.2.2.2.1
  have hgd : 0 ≤ (gF G 3 (p) 7) ∧ (gF G 3 (p) 7) ≤ 600 := hcr.2.2.2.2.2 p hp0.1 hp0.2
  refine pw_aload r_1_arrive_0 rfl ?_
  refine pw_ifnull r_1_arrive_1 (fun q => by cases q) (fun _ _ => ?_)
  refine pw_aload r_1_arrive_4 rfl ?_
  refine pw_getI r_1_arrive_5 fs_3_8 (by decide) ?_
  refine pw_const r_1_arrive_8 ?_
  refine pw_icmp_ne r_1_arrive_9 (fun h09 => ?_) (fun h09 => ?_)
  · skip
    refine pw_vret r_1_arrive_23 rfl (Nat.le_refl _) ⟨rfl, ?_⟩
    first | (unfold arvC at hP; rw [if_neg (by omega)] at hP; exact hP) | (unfold arvC at hP; rw [if_pos (by omega)] at hP; rw [if_pos (by omega)] at hP; exact hP) | (unfold arvC at hP; rw [if_pos (by omega)] at hP; rw [if_neg (by omega)] at hP; rw [if_pos (by omega)] at hP; exact hP) | (unfold arvC at hP; rw [if_pos (by omega)] at hP; rw [if_neg (by omega)] at hP; rw [if_neg (by omega)] at hP; rw [if_pos (by omega)] at hP; exact hP) | (unfold arvC at hP; rw [if_pos (by omega)] at hP; rw [if_neg (by omega)] at hP; rw [if_neg (by omega)] at hP; rw [if_neg (by omega)] at hP; exact hP)
  · skip
    refine pw_aload r_1_arrive_12 rfl ?_
    refine pw_getI r_1_arrive_13 fs_3_11 (by decide) ?_
    refine pw_aload r_1_arrive_16 rfl ?_
    refine pw_getI r_1_arrive_17 fs_1_2 (by decide) ?_
    refine pw_icmp_le r_1_arrive_20 (fun h20 => ?_) (fun h20 => ?_)
    · skip
      refine pw_aload r_1_arrive_24 rfl ?_
      refine pw_getI r_1_arrive_25 fs_3_10 (by decide) ?_
      refine pw_const r_1_arrive_28 ?_
      refine pw_icmp_ne r_1_arrive_30 (fun h30 => ?_) (fun h30 => ?_)
      · skip
        refine pw_aload r_1_arrive_46 rfl ?_
        refine pw_getI r_1_arrive_47 fs_3_10 (by decide) ?_
        refine pw_const r_1_arrive_50 ?_
        refine pw_icmp_ne r_1_arrive_52 (fun h52 => ?_) (fun h52 => ?_)
        · skip
          refine pw_aload r_1_arrive_68 rfl ?_
          refine pw_const r_1_arrive_69 ?_
          refine pw_aload r_1_arrive_70 rfl ?_
          refine pw_getI r_1_arrive_71 fs_3_10 (by decide) ?_
          refine pw_aload r_1_arrive_74 rfl ?_
          refine pw_getI r_1_arrive_75 fs_1_2 (by decide) ?_
          refine pw_callV (av := [vI (0), vI (gF G 3 (p) 10), vI (gF G 1 (0) 2)]) (st := []) (ls0 := [some (vR 3 (p)), some (vI (0)), some (vI (gF G 3 (p) 10)), some (vI (gF G 1 (0) 2))]) r_1_arrive_78 rfl rfl rfl (Nat.le_refl _) ?_
          refine sp_X3_enter  ?_
          have e9 : gF (sF (sF (sF (sF G 3 p 8 (0)) 3 p 10 ((gF G 3 (p) 10))) 3 p 9 (gF G 1 0 2)) 3 p 11 (-1)) 1 0 3 = (gF G 1 0 3) := rfl
          refine pw_aload r_1_arrive_81 rfl ?_
          refine pw_aload r_1_arrive_82 rfl ?_
          refine pw_callV (av := [vR 3 (p)]) (st := []) (ls0 := [some (vR 1 (0)), some (vR 3 (p))]) r_1_arrive_83 rfl rfl rfl (Nat.le_refl _) ?_
          refine sp_X1_beginStay (by first | assumption | exact hst | omega) (by first | assumption | exact hnum | omega) ?_ ?_
          · skip
            intros
            refine pw_vret r_1_arrive_86 rfl (Nat.le_refl _) ⟨rfl, ?_⟩
            first | (unfold arvC at hP; rw [if_neg (by omega)] at hP; exact hP) | (unfold arvC at hP; rw [if_pos (by omega)] at hP; rw [if_pos (by omega)] at hP; exact hP) | (unfold arvC at hP; rw [if_pos (by omega)] at hP; rw [if_neg (by omega)] at hP; rw [if_pos (by omega)] at hP; exact hP) | (unfold arvC at hP; rw [if_pos (by omega)] at hP; rw [if_neg (by omega)] at hP; rw [if_neg (by omega)] at hP; rw [if_pos (by omega)] at hP; exact hP) | (unfold arvC at hP; rw [if_pos (by omega)] at hP; rw [if_neg (by omega)] at hP; rw [if_neg (by omega)] at hP; rw [if_neg (by omega)] at hP; exact hP)
          · skip
            intros
            refine pw_eqG (G' := sF (sA (sA (sA (sA (sF (sF (sF (sF G 3 (p) 8 (0)) 3 (p) 10 ((gF G 3 (p) 10))) 3 (p) 9 ((gF G 1 (0) 2))) 3 (p) 11 (-1)) 32 (0) ((gF G 1 (0) 3)) (p)) 33 (0) ((gF G 1 (0) 3)) (((gF G 3 (p) 10)))) 34 (0) ((gF G 1 (0) 3)) ((gF G 1 (0) 2))) 35 (0) ((gF G 1 (0) 3)) (-1)) 1 (0) 3 ((gF G 1 (0) 3) + 1)) (by first | rfl | simp (disch := decide) [gF_sF, gF_sA, gF_uA, gF_sD, gA_sF, gA_sA, gA_uA, gA_sD, gD_sF, gD_sA, gD_uA, gD_sD]) ?_
            refine pw_vret r_1_arrive_86 rfl (Nat.le_refl _) ⟨rfl, ?_⟩
            first | (unfold arvC at hP; rw [if_neg (by omega)] at hP; exact hP) | (unfold arvC at hP; rw [if_pos (by omega)] at hP; rw [if_pos (by omega)] at hP; exact hP) | (unfold arvC at hP; rw [if_pos (by omega)] at hP; rw [if_neg (by omega)] at hP; rw [if_pos (by omega)] at hP; exact hP) | (unfold arvC at hP; rw [if_pos (by omega)] at hP; rw [if_neg (by omega)] at hP; rw [if_neg (by omega)] at hP; rw [if_pos (by omega)] at hP; exact hP) | (unfold arvC at hP; rw [if_pos (by omega)] at hP; rw [if_neg (by omega)] at hP; rw [if_neg (by omega)] at hP; rw [if_neg (by omega)] at hP; exact hP)
        · skip
          refine pw_aload r_1_arrive_55 rfl ?_
          refine pw_const r_1_arrive_56 ?_
          refine pw_const r_1_arrive_57 ?_
          refine pw_aload r_1_arrive_58 rfl ?_
          refine pw_getI r_1_arrive_59 fs_1_2 (by decide) ?_
          refine pw_callV (av := [vI (3), vI ((-1)), vI (gF G 1 (0) 2)]) (st := []) (ls0 := [some (vR 3 (p)), some (vI (3)), some (vI ((-1))), some (vI (gF G 1 (0) 2))]) r_1_arrive_62 rfl rfl rfl (Nat.le_refl _) ?_
          refine sp_X3_enter  ?_
          refine pw_goto r_1_arrive_65 ?_
          refine pw_vret r_1_arrive_86 rfl (Nat.le_refl _) ⟨rfl, ?_⟩
          first | (unfold arvC at hP; rw [if_neg (by omega)] at hP; exact hP) | (unfold arvC at hP; rw [if_pos (by omega)] at hP; rw [if_pos (by omega)] at hP; exact hP) | (unfold arvC at hP; rw [if_pos (by omega)] at hP; rw [if_neg (by omega)] at hP; rw [if_pos (by omega)] at hP; exact hP) | (unfold arvC at hP; rw [if_pos (by omega)] at hP; rw [if_neg (by omega)] at hP; rw [if_neg (by omega)] at hP; rw [if_pos (by omega)] at hP; exact hP) | (unfold arvC at hP; rw [if_pos (by omega)] at hP; rw [if_neg (by omega)] at hP; rw [if_neg (by omega)] at hP; rw [if_neg (by omega)] at hP; exact hP)
      · skip
        refine pw_aload r_1_arrive_33 rfl ?_
        refine pw_const r_1_arrive_34 ?_
        refine pw_const r_1_arrive_35 ?_
        refine pw_aload r_1_arrive_36 rfl ?_
        refine pw_getI r_1_arrive_37 fs_1_2 (by decide) ?_
        refine pw_callV (av := [vI (2), vI ((-1)), vI (gF G 1 (0) 2)]) (st := []) (ls0 := [some (vR 3 (p)), some (vI (2)), some (vI ((-1))), some (vI (gF G 1 (0) 2))]) r_1_arrive_40 rfl rfl rfl (Nat.le_refl _) ?_
        refine sp_X3_enter  ?_
        refine pw_goto r_1_arrive_43 ?_
        refine pw_vret r_1_arrive_86 rfl (Nat.le_refl _) ⟨rfl, ?_⟩
        first | (unfold arvC at hP; rw [if_neg (by omega)] at hP; exact hP) | (unfold arvC at hP; rw [if_pos (by omega)] at hP; rw [if_pos (by omega)] at hP; exact hP) | (unfold arvC at hP; rw [if_pos (by omega)] at hP; rw [if_neg (by omega)] at hP; rw [if_pos (by omega)] at hP; exact hP) | (unfold arvC at hP; rw [if_pos (by omega)] at hP; rw [if_neg (by omega)] at hP; rw [if_neg (by omega)] at hP; rw [if_pos (by omega)] at hP; exact hP) | (unfold arvC at hP; rw [if_pos (by omega)] at hP; rw [if_neg (by omega)] at hP; rw [if_neg (by omega)] at hP; rw [if_neg (by omega)] at hP; exact hP)
    · skip
      refine pw_vret r_1_arrive_23 rfl (Nat.le_refl _) ⟨rfl, ?_⟩
      first | (unfold arvC at hP; rw [if_neg (by omega)] at hP; exact hP) | (unfold arvC at hP; rw [if_pos (by omega)] at hP; rw [if_pos (by omega)] at hP; exact hP) | (unfold arvC at hP; rw [if_pos (by omega)] at hP; rw [if_neg (by omega)] at hP; rw [if_pos (by omega)] at hP; exact hP) | (unfold arvC at hP; rw [if_pos (by omega)] at hP; rw [if_neg (by omega)] at hP; rw [if_neg (by omega)] at hP; rw [if_pos (by omega)] at hP; exact hP) | (unfold arvC at hP; rw [if_pos (by omega)] at hP; rw [if_neg (by omega)] at hP; rw [if_neg (by omega)] at hP; rw [if_neg (by omega)] at hP; exact hP)
set_option maxRecDepth 10000 in
theorem sp_X1_worsen {l : Launch} {w : Wo} {d : Nat} {G : PH} {P : Option PV → PH → Prop} {p : Int} (hcr : CR G) (hp0 : 0 ≤ p ∧ p < (gF G 1 0 1)) (hP : P none (worC G p)) : PW l w M_X1_worsen (d + 2) 0 [some (vR 1 (0)), some (vR 3 (p)), none] [] G P := by
  have hst : 0 ≤ (gF G 1 0 3) ∧ (gF G 1 0 3) ≤ 400 := hcr.2.2.1
  have hnum : (gF G 3 (p) 0) = p := hcr.2.2.2.1 p hp0.1 hp0.2
  have hdy : 0 ≤ (gF G 1 0 2) ∧ (gF G 1 0 2) ≤ 600 := hcr.2.2.2.2.1
  have hgd : 0 ≤ (gF G 3 (p) 7) ∧ (gF G 3 (p) 7) ≤ 600 := hcr.2.2.2.2.2 p hp0.1 hp0.2
  refine pw_aload r_1_worsen_0 rfl ?_
  refine pw_ifnull r_1_worsen_1 (fun q => by cases q) (fun _ _ => ?_)
  refine pw_aload r_1_worsen_4 rfl ?_
  refine pw_getI r_1_worsen_5 fs_3_8 (by decide) ?_
  refine pw_const r_1_worsen_8 ?_
  refine pw_icmp_gt r_1_worsen_9 (fun h09 => ?_) (fun h09 => ?_)
  · skip
    refine pw_vret r_1_worsen_25 rfl (Nat.le_refl _) ⟨rfl, ?_⟩
    first | (unfold worC at hP; rw [if_neg (by omega)] at hP; exact hP) | (unfold worC at hP; rw [if_pos (by omega)] at hP; rw [if_neg (by omega)] at hP; exact hP) | (unfold worC at hP; rw [if_pos (by omega)] at hP; rw [if_pos (by omega)] at hP; exact hP)
  · skip
    refine pw_aload r_1_worsen_12 rfl ?_
    refine pw_getI r_1_worsen_13 fs_3_6 (by decide) ?_
    refine pw_const r_1_worsen_16 ?_
    refine pw_const r_1_worsen_17 ?_
    refine pw_callS (av := [vI (gF G 3 (p) 6), vI (1), vI (9)]) (st := []) (ls0 := [some (vI (gF G 3 (p) 6)), some (vI (1)), some (vI (9))]) r_1_worsen_19 rfl rfl rfl (Nat.le_refl _) ?_
    refine sp_X11_within  ?_
    refine pw_if_neB r_1_worsen_22 (fun h22 => ?_) (fun h22 => ?_)
    · skip
      refine pw_aload r_1_worsen_26 rfl ?_
      refine pw_getR r_1_worsen_27 fs_1_5 (by decide) ?_
      refine pw_aload r_1_worsen_30 rfl ?_
      refine pw_getI r_1_worsen_31 fs_3_6 (by decide) ?_
      refine pw_iald r_1_worsen_34 sh31 (by omega) (by omega) ?_
      refine pw_istore (ls' := [some (vR 1 (0)), some (vR 3 (p)), some (vI (gA G 31 (0) (gF G 3 (p) 6)))]) r_1_worsen_35 rfl rfl ?_
      refine pw_iload r_1_worsen_36 rfl ?_
      refine pw_if_eq r_1_worsen_37 (fun h37 => ?_) (fun h37 => ?_)
      · skip
        refine pw_vret r_1_worsen_53 rfl (Nat.le_refl _) ⟨rfl, ?_⟩
        first | (unfold worC at hP; rw [if_neg (by omega)] at hP; exact hP) | (unfold worC at hP; rw [if_pos (by omega)] at hP; rw [if_neg (by omega)] at hP; exact hP) | (unfold worC at hP; rw [if_pos (by omega)] at hP; rw [if_pos (by omega)] at hP; exact hP)
      · skip
        refine pw_aload r_1_worsen_40 rfl ?_
        refine pw_getI r_1_worsen_41 fs_1_2 (by decide) ?_
        refine pw_aload r_1_worsen_44 rfl ?_
        refine pw_getI r_1_worsen_45 fs_3_7 (by decide) ?_
        refine pw_isub r_1_worsen_48 (by omega) ?_
        refine pw_iload r_1_worsen_49 rfl ?_
        refine pw_icmp_ge r_1_worsen_50 (fun h50 => ?_) (fun h50 => ?_)
        · skip
          refine pw_aload r_1_worsen_54 rfl ?_
          refine pw_dup r_1_worsen_55 rfl ?_
          refine pw_getI r_1_worsen_56 fs_3_6 (by decide) ?_
          refine pw_const r_1_worsen_59 ?_
          refine pw_iadd r_1_worsen_60 (by omega) ?_
          refine pw_putI r_1_worsen_61 (by decide +kernel) fs_3_6 (by decide) ?_
          refine pw_aload r_1_worsen_64 rfl ?_
          refine pw_aload r_1_worsen_65 rfl ?_
          refine pw_getIv (v := gF G 1 (0) 2) r_1_worsen_66 fs_1_2 (by decide) (by first | rfl | simp [gF_sF, gF_sA, gF_uA, gF_sD, gA_sF, gA_sA, gA_uA, gA_sD, gD_sF, gD_sA, gD_uA, gD_sD]) ?_
          refine pw_putI r_1_worsen_69 (by decide +kernel) fs_3_7 (by decide) ?_
          refine pw_aload r_1_worsen_72 rfl ?_
          refine pw_getIv (v := ((gF G 3 (p) 6) + 1)) r_1_worsen_73 fs_3_6 (by decide) (by first | rfl | simp [gF_sF, gF_sA, gF_uA, gF_sD, gA_sF, gA_sA, gA_uA, gA_sD, gD_sF, gD_sA, gD_uA, gD_sD]) ?_
          refine pw_const r_1_worsen_76 ?_
          refine pw_icmp_ne r_1_worsen_78 (fun h78 => ?_) (fun h78 => ?_)
          · skip
            refine pw_vret r_1_worsen_88 rfl (Nat.le_refl _) ⟨rfl, ?_⟩
            first | (unfold worC at hP; rw [if_neg (by omega)] at hP; exact hP) | (unfold worC at hP; rw [if_pos (by omega)] at hP; rw [if_neg (by omega)] at hP; exact hP) | (unfold worC at hP; rw [if_pos (by omega)] at hP; rw [if_pos (by omega)] at hP; exact hP)
          · skip
            refine pw_aload r_1_worsen_81 rfl ?_
            refine pw_aload r_1_worsen_82 rfl ?_
            refine pw_const r_1_worsen_83 ?_
            refine pw_callV (av := [vR 3 (p), vI (8)]) (st := []) (ls0 := [some (vR 1 (0)), some (vR 3 (p)), some (vI (8)), none]) r_1_worsen_85 rfl rfl rfl (Nat.le_refl _) ?_
            refine sp_X1_leave (by first | assumption | exact hst | omega) (by first | assumption | exact hnum | omega) ?_
            refine pw_eqG (G' := sF (sF (sF (sF (uA (sF (sF G 3 (p) 6 (((gF G 3 (p) 6) + 1))) 3 (p) 7 (gF G 1 (0) 2)) 35 (0) (filF (fun j0 => (gA G 32 (0) (j0)) = p ∧ (gA G 35 (0) (j0)) = -1) (fun j0 => (gF G 1 (0) 2)) (gA G 35 0) (gF G 1 (0) 3))) 3 (p) 8 (8)) 3 (p) 10 (-1)) 3 (p) 9 ((gF G 1 (0) 2))) 3 (p) 11 (-1)) (by first | rfl | simp (disch := decide) [gF_sF, gF_sA, gF_uA, gF_sD, gA_sF, gA_sA, gA_uA, gA_sD, gD_sF, gD_sA, gD_uA, gD_sD]) ?_
            refine pw_vret r_1_worsen_88 rfl (Nat.le_refl _) ⟨rfl, ?_⟩
            first | (unfold worC at hP; rw [if_neg (by omega)] at hP; exact hP) | (unfold worC at hP; rw [if_pos (by omega)] at hP; rw [if_neg (by omega)] at hP; exact hP) | (unfold worC at hP; rw [if_pos (by omega)] at hP; rw [if_pos (by omega)] at hP; exact hP)
        · skip
          refine pw_vret r_1_worsen_53 rfl (Nat.le_refl _) ⟨rfl, ?_⟩
          first | (unfold worC at hP; rw [if_neg (by omega)] at hP; exact hP) | (unfold worC at hP; rw [if_pos (by omega)] at hP; rw [if_neg (by omega)] at hP; exact hP) | (unfold worC at hP; rw [if_pos (by omega)] at hP; rw [if_pos (by omega)] at hP; exact hP)
    · skip
      refine pw_vret r_1_worsen_25 rfl (Nat.le_refl _) ⟨rfl, ?_⟩
      first | (unfold worC at hP; rw [if_neg (by omega)] at hP; exact hP) | (unfold worC at hP; rw [if_pos (by omega)] at hP; rw [if_neg (by omega)] at hP; exact hP) | (unfold worC at hP; rw [if_pos (by omega)] at hP; rw [if_pos (by omega)] at hP; exact hP)
set_option maxRecDepth 10000 in
theorem sp_X1_pass {l : Launch} {w : Wo} {d : Nat} {G : PH} {P : Option PV → PH → Prop} {n : Int} (hcr : CR G) (h1 : ¬ ((1 ≤ n ∧ n ≤ 60) ∧ (gF G 1 0 2) + n ≤ 600) → P (some (vI (-1))) G) (h2 : (1 ≤ n ∧ n ≤ 60) → (gF G 1 0 2) + n ≤ 600 → P (some (vI (gF (daysC G n) 1 0 2))) (daysC G n)) : PW l w M_X1_pass (d + 3) 0 [some (vR 1 (0)), some (vI (n)), none, none] [] G P := by
  have hsz : 0 ≤ (gF G 1 0 1) ∧ (gF G 1 0 1) ≤ 150 := hcr.1
  have hdy : 0 ≤ (gF G 1 0 2) ∧ (gF G 1 0 2) ≤ 600 := hcr.2.2.2.2.1
  refine pw_iload r_1_pass_0 rfl ?_
  refine pw_const r_1_pass_1 ?_
  refine pw_const r_1_pass_2 ?_
  refine pw_callS (av := [vI (n), vI (1), vI (60)]) (st := []) (ls0 := [some (vI (n)), some (vI (1)), some (vI (60))]) r_1_pass_4 rfl rfl rfl (Nat.le_refl _) ?_
  refine sp_X11_within  ?_
  refine pw_if_eqB r_1_pass_7 (fun h07 => ?_) (fun h07 => ?_)
  · skip
    refine pw_const r_1_pass_22 ?_
    refine pw_iret r_1_pass_23 rfl (Nat.le_refl _) ⟨rfl, ?_⟩
    first | exact h1 (by omega) | exact h2 hn1.1 hn1.2
  · skip
    refine pw_aload r_1_pass_10 rfl ?_
    refine pw_getI r_1_pass_11 fs_1_2 (by decide) ?_
    refine pw_iload r_1_pass_14 rfl ?_
    refine pw_iadd r_1_pass_15 (by omega) ?_
    refine pw_const r_1_pass_16 ?_
    refine pw_icmp_le r_1_pass_19 (fun h19 => ?_) (fun h19 => ?_)
    · skip
      refine pw_const r_1_pass_24 ?_
      refine pw_istore (ls' := [some (vR 1 (0)), some (vI (n)), some (vI (0)), none]) r_1_pass_25 rfl rfl ?_
      have L26 : ∀ (nF : Nat) (k : Int), (hk : 0 ≤ k ∧ k ≤ n) → (hn1 : (1 ≤ n ∧ n ≤ 60) ∧ (gF G 1 0 2) + n ≤ 600) → (n - k).toNat < nF → PW l w M_X1_pass (d + 3) 26 [some (vR 1 (0)), some (vI (n)), some (vI (k)), none] [] (daysC G k) P := by
        intro nF
        induction nF with
        | zero => intro _ _ _ hM; exact absurd hM (Nat.not_lt_zero _)
        | succ nF ih26 =>
          intro k hk hn1 hM26
          have hck := days_ok hk.1 hcr (show (gF G 1 0 2) + k ≤ 600 by omega)
          have hc0 : CR (daysC G k) := hck.1
          have hs0 : gF (daysC G k) 1 0 1 = (gF G 1 0 1) := hck.2.1
          have hd0 : gF (daysC G k) 1 0 2 = (gF G 1 0 2) + k := hck.2.2
          refine pw_iload r_1_pass_26 rfl ?_
          refine pw_iload r_1_pass_27 rfl ?_
          refine pw_icmp_ge r_1_pass_28 (fun h28 => ?_) (fun h28 => ?_)
          · skip
            have ek : k = n := by omega
            subst ek
            refine pw_aload r_1_pass_99 rfl ?_
            refine pw_getI r_1_pass_100 fs_1_2 (by decide) ?_
            refine pw_iret r_1_pass_103 rfl (Nat.le_refl _) ⟨rfl, ?_⟩
            first | exact h1 (by omega) | exact h2 hn1.1 hn1.2
          · skip
            have hkn : k < n := by omega
            refine pw_aload r_1_pass_31 rfl ?_
            refine pw_dup r_1_pass_32 rfl ?_
            refine pw_getI r_1_pass_33 fs_1_2 (by decide) ?_
            refine pw_const r_1_pass_36 ?_
            refine pw_iadd r_1_pass_37 (by omega) ?_
            refine pw_putI r_1_pass_38 (by decide +kernel) fs_1_2 (by decide) ?_
            refine pw_const r_1_pass_41 ?_
            refine pw_istore (ls' := [some (vR 1 (0)), some (vI (n)), some (vI (k)), some (vI (0))]) r_1_pass_42 rfl rfl ?_
            have L43 : ∀ (nF : Nat) (i : Int), (hi : 0 ≤ i ∧ i ≤ (gF (daysC G k) 1 0 1)) → ((gF (daysC G k) 1 0 1) - i).toNat < nF → PW l w M_X1_pass (d + 3) 43 [some (vR 1 (0)), some (vI (n)), some (vI (k)), some (vI (i))] [] (arvsC (sF (daysC G k) 1 (0) 2 (((gF (daysC G k) 1 (0) 2) + 1))) i) P := by
              intro nF
              induction nF with
              | zero => intro _ _ hM; exact absurd hM (Nat.not_lt_zero _)
              | succ nF ih43 =>
                intro i hi hM43
                have hca := arvs_ok hi.1 (CR_next hc0 (by omega))
                have hc1 : CR (arvsC (sF (daysC G k) 1 0 2 (gF (daysC G k) 1 0 2 + 1)) i) := hca.1
                have hs1 : gF (arvsC (sF (daysC G k) 1 0 2 (gF (daysC G k) 1 0 2 + 1)) i) 1 0 1 = (gF (daysC G k) 1 0 1) := hca.2.1
                refine pw_iload r_1_pass_43 rfl ?_
                refine pw_aload r_1_pass_44 rfl ?_
                refine pw_getI r_1_pass_45 fs_1_1 (by decide) ?_
                refine pw_icmp_ge r_1_pass_48 (fun h48 => ?_) (fun h48 => ?_)
                · skip
                  have ei : i = (gF (daysC G k) 1 0 1) := by omega
                  subst ei
                  refine pw_eqG (G' := arvsC (sF (daysC G k) 1 (0) 2 (((gF (daysC G k) 1 (0) 2) + 1))) (gF (daysC G k) 1 0 1)) (by first | rfl | (rw [uA_self]; done) | (rw [sA_uA]; done) | (rw [sA_eq]; done) | (simp (disch := decide) only [sA_uA, sA_uA_ne, uA_abs, uA_abs2, uA_uA]; done) | (simp (disch := decide) only [sA_eq, sA_uA, sA_uA_ne, uA_abs, uA_abs2, uA_uA]; done) | (refine PH_ext (fun _ _ _ => ?_) (fun _ _ _ => ?_) (fun _ _ _ => ?_) <;> simp only [gF_sF, gF_sA, gF_uA, gF_sD, gA_sF, gA_sA, gA_uA, gA_sD, gD_sF, gD_sA, gD_uA, gD_sD] <;> (repeat' split) <;> first | rfl | (exfalso; omega) | simp_all)) ?_
                  refine pw_const r_1_pass_67 ?_
                  refine pw_istore (ls' := [some (vR 1 (0)), some (vI (n)), some (vI (k)), some (vI (0))]) r_1_pass_68 rfl rfl ?_
                  have L69 : ∀ (nF : Nat) (j : Int), (hj : 0 ≤ j ∧ j ≤ (gF (daysC G k) 1 0 1)) → ((gF (daysC G k) 1 0 1) - j).toNat < nF → PW l w M_X1_pass (d + 3) 69 [some (vR 1 (0)), some (vI (n)), some (vI (k)), some (vI (j))] [] (worsC (arvsC (sF (daysC G k) 1 (0) 2 (((gF (daysC G k) 1 (0) 2) + 1))) (gF (daysC G k) 1 0 1)) j) P := by
                    intro nF
                    induction nF with
                    | zero => intro _ _ hM; exact absurd hM (Nat.not_lt_zero _)
                    | succ nF ih69 =>
                      intro j hj hM69
                      have hcb := wors_ok hj.1 (arvs_ok hc0.1.1 (CR_next hc0 (by omega))).1
                      have hc2 : CR (worsC (arvsC (sF (daysC G k) 1 0 2 (gF (daysC G k) 1 0 2 + 1)) (gF (daysC G k) 1 0 1)) j) := hcb.1
                      have hs2 : gF (worsC (arvsC (sF (daysC G k) 1 0 2 (gF (daysC G k) 1 0 2 + 1)) (gF (daysC G k) 1 0 1)) j) 1 0 1 = (gF (daysC G k) 1 0 1) := hcb.2.1.trans (arvs_ok hc0.1.1 (CR_next hc0 (by omega))).2.1
                      refine pw_iload r_1_pass_69 rfl ?_
                      refine pw_aload r_1_pass_70 rfl ?_
                      refine pw_getI r_1_pass_71 fs_1_1 (by decide) ?_
                      refine pw_icmp_ge r_1_pass_74 (fun h74 => ?_) (fun h74 => ?_)
                      · skip
                        refine pw_iinc (b := 0) (ls' := [some (vR 1 (0)), some (vI (n)), some (vI ((k + 1))), some (vI (j))]) r_1_pass_93 rfl rfl (by omega) rfl ?_
                        refine pw_goto r_1_pass_96 ?_
                        refine pw_weakL (ls' := [some (vR 1 (0)), some (vI (n)), some (vI ((k + 1))), none]) (⟨rfl, ⟨rfl, ⟨rfl, trivial⟩⟩⟩) ?_
                        refine pw_eqG (G' := daysC G (k + 1)) (by rw [show j = (gF (daysC G k) 1 0 1) by omega]; first | exact (days_s hk.1).symm | exact days_s hk.1) ?_
                        exact ih26 ((k + 1)) (by omega) (hn1) (by omega)
                      · skip
                        refine pw_aload r_1_pass_77 rfl ?_
                        refine pw_aload r_1_pass_78 rfl ?_
                        refine pw_getR r_1_pass_79 fs_1_0 (by decide) ?_
                        refine pw_iload r_1_pass_82 rfl ?_
                        refine pw_aaldPv (q := some (3, j)) r_1_pass_83 (by omega) (by omega) ((by first | exact hc2.2.1 j (by omega) (by omega) | exact hc1.2.1 j (by omega) (by omega))) ?_
                        refine pw_callV (av := [vR 3 (j)]) (st := []) (ls0 := [some (vR 1 (0)), some (vR 3 (j)), none]) r_1_pass_84 rfl rfl rfl (Nat.le_refl _) ?_
                        refine sp_X1_worsen (hc2) (⟨hj.1, by omega⟩) ?_
                        refine pw_iinc (b := 0) (ls' := [some (vR 1 (0)), some (vI (n)), some (vI (k)), some (vI ((j + 1)))]) r_1_pass_87 rfl rfl (by omega) rfl ?_
                        refine pw_goto r_1_pass_90 ?_
                        refine pw_eqG (G' := worsC (arvsC (sF (daysC G k) 1 (0) 2 (((gF (daysC G k) 1 (0) 2) + 1))) (gF (daysC G k) 1 0 1)) (j + 1)) (by first | exact (wors_s hj.1).symm | exact wors_s hj.1) ?_
                        exact ih69 ((j + 1)) (by omega) (by omega)
                  refine pw_eqG (G' := worsC (arvsC (sF (daysC G k) 1 (0) 2 (((gF (daysC G k) 1 (0) 2) + 1))) (gF (daysC G k) 1 0 1)) 0) (rfl) ?_
                  exact L69 _ (0) (by omega) (Nat.lt_succ_self _)
                · skip
                  refine pw_aload r_1_pass_51 rfl ?_
                  refine pw_aload r_1_pass_52 rfl ?_
                  refine pw_getR r_1_pass_53 fs_1_0 (by decide) ?_
                  refine pw_iload r_1_pass_56 rfl ?_
                  refine pw_aaldPv (q := some (3, i)) r_1_pass_57 (by omega) (by omega) ((by first | exact hc2.2.1 i (by omega) (by omega) | exact hc1.2.1 i (by omega) (by omega))) ?_
                  refine pw_callV (av := [vR 3 (i)]) (st := []) (ls0 := [some (vR 1 (0)), some (vR 3 (i))]) r_1_pass_58 rfl rfl rfl (Nat.le_refl _) ?_
                  refine sp_X1_arrive (hc1) (⟨hi.1, by omega⟩) ?_
                  refine pw_iinc (b := 0) (ls' := [some (vR 1 (0)), some (vI (n)), some (vI (k)), some (vI ((i + 1)))]) r_1_pass_61 rfl rfl (by omega) rfl ?_
                  refine pw_goto r_1_pass_64 ?_
                  refine pw_eqG (G' := arvsC (sF (daysC G k) 1 (0) 2 (((gF (daysC G k) 1 (0) 2) + 1))) (i + 1)) (by first | exact (arvs_s hi.1).symm | exact arvs_s hi.1) ?_
                  exact ih43 ((i + 1)) (by omega) (by omega)
            refine pw_eqG (G' := arvsC (sF (daysC G k) 1 (0) 2 (((gF (daysC G k) 1 (0) 2) + 1))) 0) (rfl) ?_
            exact L43 _ (0) (by omega) (Nat.lt_succ_self _)
      refine pw_eqG (G' := daysC G 0) (rfl) ?_
      exact L26 _ (0) (by omega) (by omega) (Nat.lt_succ_self _)
    · skip
      refine pw_const r_1_pass_22 ?_
      refine pw_iret r_1_pass_23 rfl (Nat.le_refl _) ⟨rfl, ?_⟩
      first | exact h1 (by omega) | exact h2 hn1.1 hn1.2
set_option maxRecDepth 10000 in
theorem sp_X11_days {l : Launch} {w : Wo} {d : Nat} {G : PH} {P : Option PV → PH → Prop} {n : Int} (hcr : CR G) (h1 : ¬ ((1 ≤ n ∧ n ≤ 60) ∧ (gF G 1 0 2) + n ≤ 600) → P (some (vI (-1))) G) (h2 : (1 ≤ n ∧ n ≤ 60) → (gF G 1 0 2) + n ≤ 600 → P (some (vI (gF (daysC G n) 1 0 2))) (daysC G n)) : PW l w M_X11_days (d + 4) 0 [some (vR 11 (0)), some (vI (n))] [] G P := by
  refine pw_aload r_11_days_0 rfl ?_
  refine pw_getR r_11_days_1 fs_11_1 (by decide) ?_
  refine pw_iload r_11_days_4 rfl ?_
  refine pw_callV (av := [vI (n)]) (st := []) (ls0 := [some (vR 1 (0)), some (vI (n)), none, none]) r_11_days_5 rfl rfl rfl (Nat.le_refl _) ?_
  refine sp_X1_pass (by first | assumption | exact hcr | omega) ?_ ?_
  · skip
    intro q1
    refine pw_iret r_11_days_8 rfl (Nat.le_refl _) ⟨rfl, ?_⟩
    exact h1 q1
  · skip
    intro q1 q2
    refine pw_iret r_11_days_8 rfl (Nat.le_refl _) ⟨rfl, ?_⟩
    exact h2 q1 q2
