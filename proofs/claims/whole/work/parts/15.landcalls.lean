/-- after the class's call, the reference's call gives the same and the bond holds again -/
def CallPhi (l : Launch) (w : Wo) (d : Nat) (M2 : MI) (a2 : List (Option PV)) (r : Option PV) (G1 : PH) : Prop :=
  PW l w M2 (d + 1000) 0 a2 [] G1 (fun r2 G2 => (r2 = r ∧ ∃ v, r = some (vI v)) ∧ Inv w.1.2 G2 G2)
def CallOk (l : Launch) (w : Wo) (d : Nat) (M1 M2 : MI) (a1 a2 : List (Option PV)) (G : PH) : Prop := PW l w M1 (d + 1000) 0 a1 [] G (CallPhi l w d M2 a2)
/-- one more camp -/
theorem pers1_camp {q day n n1 : Int} {X Y : PH} {i : Int} (h : pers1 q day n X Y i) (hn : n ≤ n1) : pers1 q day n1 X Y i := by
  obtain ⟨a1, a2, a3, a4, a5, a6, a7, a8, a9, a10, a11, a12, a13⟩ := h
  refine ⟨a1, a2, a3, a4, a5, a6, a7, a8, a9, a10, fun e => ?_, fun e => ?_, a13⟩
  · obtain ⟨b1, b2, b3⟩ := a11 e; exact ⟨b1, b2, by omega⟩
  · obtain ⟨b1, b2, b3⟩ := a12 e; exact ⟨b1, (by unfold ptOk at b2 ⊢; omega), b3⟩
theorem far_thr {X Y : PH} (iL : ILand X Y) {c u v : Int} (hc : 0 ≤ c ∧ c < (gF X 2 0 2)) (u0 : 0 ≤ u) (u1 : u < 18) (v0 : 0 ≤ v) (v1 : v < 18) (h : 0 < (gA Y 202 0 (18 * u + v))) : (u = c ∨ 16 ≤ u ∨ (gA Y 200 0 (u)) = (gA Y 200 0 (c))) ↔ (¬ (0 ≤ u ∧ u < (gF X 2 0 2)) ∨ (gA X 41 0 (u)) = (gA X 41 0 (c))) := by
  have h1 := (iL.2.2.1 (u * 18 + v) (by omega) (by omega)).1
  rw [show 18 * u + v = u * 18 + v by omega, h1] at h
  have h2 := iL.2.2.2 u v u0 u1 v0 v1 h
  have h3 := (iL.2.1 c hc.1 hc.2).1
  have h4 := iL.1
  unfold ptOk at h2
  by_cases q : u < (gF X 2 0 2)
  · have h5 := (iL.2.1 u u0 q).1
    by_cases e : u = c
    · subst e; omega
    · omega
  · omega

theorem wd_f11_10 : Cond.fieldLink "NameRolls" 10 "NameRolls" "land" "LNameRolls$Land;" ∈ UW := UW2_at 238 (by decide +kernel) rfl
theorem wd_m11_86 : Cond.methodLink "NameRolls" 86 M_X2_addCamp.1 ∈ UW := UW3_at 61 (by decide +kernel) rfl
theorem wd_s2_addCamp : Cond.selects M_X2_addCamp.1.cls M_X2_addCamp.1 M_X2_addCamp.1 ∈ UW := UW3_at 63 (by decide +kernel) rfl
theorem wd_m11_90 : Cond.methodLink "NameRolls" 90 M_X2_addRoad.1 ∈ UW := UW3_at 73 (by decide +kernel) rfl
theorem wd_s2_addRoad : Cond.selects M_X2_addRoad.1.cls M_X2_addRoad.1 M_X2_addRoad.1 ∈ UW := UW3_at 75 (by decide +kernel) rfl
theorem wd_m11_94 : Cond.methodLink "NameRolls" 94 M_X2_farFrom.1 ∈ UW := UW3_at 92 (by decide +kernel) rfl
theorem wd_s2_farFrom : Cond.selects M_X2_farFrom.1.cls M_X2_farFrom.1 M_X2_farFrom.1 ∈ UW := UW3_at 94 (by decide +kernel) rfl
theorem r_11_camp_0 : RA M_X11_camp 0 0 1 := Or.inl ⟨0, by decide +kernel, rfl, rfl⟩
theorem r_11_camp_1 : RG M_X11_camp 1 11 0 4 := ⟨10, _, by decide +kernel, rfl, by decide, wd_f11_10, rfl, rfl⟩
theorem r_11_camp_4 : RL M_X11_camp 4 1 5 := Or.inl ⟨1, by decide +kernel, rfl, rfl⟩
theorem r_11_camp_5 : RL M_X11_camp 5 2 6 := Or.inl ⟨2, by decide +kernel, rfl, rfl⟩
theorem r_11_camp_6 : RKv M_X11_camp M_X2_addCamp 6 2 2 9 := ⟨86, by decide +kernel, wd_m11_86, ok_M_X2_addCamp, wd_s2_addCamp, rfl⟩
theorem r_11_camp_9 : RW M_X11_camp 9 .ireturn 10 1 := ⟨by decide +kernel, rfl⟩
theorem r_11_road_0 : RA M_X11_road 0 0 1 := Or.inl ⟨0, by decide +kernel, rfl, rfl⟩
theorem r_11_road_1 : RG M_X11_road 1 11 0 4 := ⟨10, _, by decide +kernel, rfl, by decide, wd_f11_10, rfl, rfl⟩
theorem r_11_road_4 : RL M_X11_road 4 1 5 := Or.inl ⟨1, by decide +kernel, rfl, rfl⟩
theorem r_11_road_5 : RL M_X11_road 5 2 6 := Or.inl ⟨2, by decide +kernel, rfl, rfl⟩
theorem r_11_road_6 : RL M_X11_road 6 3 7 := Or.inl ⟨3, by decide +kernel, rfl, rfl⟩
theorem r_11_road_7 : RKv M_X11_road M_X2_addRoad 7 3 2 10 := ⟨90, by decide +kernel, wd_m11_90, ok_M_X2_addRoad, wd_s2_addRoad, rfl⟩
theorem r_11_road_10 : RW M_X11_road 10 .ireturn 11 1 := ⟨by decide +kernel, rfl⟩
theorem r_11_far_0 : RA M_X11_far 0 0 1 := Or.inl ⟨0, by decide +kernel, rfl, rfl⟩
theorem r_11_far_1 : RG M_X11_far 1 11 0 4 := ⟨10, _, by decide +kernel, rfl, by decide, wd_f11_10, rfl, rfl⟩
theorem r_11_far_4 : RL M_X11_far 4 1 5 := Or.inl ⟨1, by decide +kernel, rfl, rfl⟩
theorem r_11_far_5 : RL M_X11_far 5 2 6 := Or.inl ⟨2, by decide +kernel, rfl, rfl⟩
theorem r_11_far_6 : RKv M_X11_far M_X2_farFrom 6 2 2 9 := ⟨94, by decide +kernel, wd_m11_94, ok_M_X2_farFrom, wd_s2_farFrom, rfl⟩
theorem r_11_far_9 : RW M_X11_far 9 .ireturn 10 1 := ⟨by decide +kernel, rfl⟩
set_option maxRecDepth 10000 in
theorem sp_X11_camp {l : Launch} {w : Wo} {d : Nat} {G : PH} {P : Option PV → PH → Prop} {s n : Int} (hc : 0 ≤ (gF G 2 0 2) ∧ (gF G 2 0 2) ≤ 16) (h1 : ¬ ((0 ≤ s ∧ s ≤ 1) ∧ 1 ≤ n ∧ n ≤ 99) → P (some (vI (-1))) G) (h2 : (0 ≤ s ∧ s ≤ 1) → 1 ≤ n ∧ n ≤ 99 → 16 ≤ (gF G 2 0 2) → P (some (vI (-2))) G) (h3 : (0 ≤ s ∧ s ≤ 1) → 1 ≤ n ∧ n ≤ 99 → (gF G 2 0 2) < 16 → P (some (vI (gF G 2 0 2))) (sF (sA (sA G 41 0 (gF G 2 0 2) s) 42 0 (gF G 2 0 2) n) 2 0 2 ((gF G 2 0 2) + 1))) : PW l w M_X11_camp (d + 2) 0 [some (vR 11 (0)), some (vI (s)), some (vI (n))] [] G P := by
  refine pw_aload r_11_camp_0 rfl ?_
  refine pw_getR r_11_camp_1 fs_11_0 (by decide) ?_
  refine pw_iload r_11_camp_4 rfl ?_
  refine pw_iload r_11_camp_5 rfl ?_
  refine pw_callV (av := [vI (s), vI (n)]) (st := []) (ls0 := [some (vR 2 (0)), some (vI (s)), some (vI (n))]) r_11_camp_6 rfl rfl rfl (Nat.le_refl _) ?_
  refine sp_X2_addCamp (by first | assumption | exact hc | omega) ?_ ?_ ?_
  · skip
    intro q1
    refine pw_iret r_11_camp_9 rfl (Nat.le_refl _) ⟨rfl, ?_⟩
    exact h1 q1
  · skip
    intro q1 q2 q3
    refine pw_iret r_11_camp_9 rfl (Nat.le_refl _) ⟨rfl, ?_⟩
    exact h2 q1 q2 q3
  · skip
    intro q1 q2 q3
    refine pw_eqG (G' := sF (sA (sA G 41 (0) (gF G 2 0 2) (s)) 42 (0) (gF G 2 0 2) (n)) 2 (0) 2 ((gF G 2 (0) 2) + 1)) (by first | rfl | simp (disch := decide) [gF_sF, gF_sA, gF_uA, gF_sD, gA_sF, gA_sA, gA_uA, gA_sD, gD_sF, gD_sA, gD_uA, gD_sD]) ?_
    refine pw_iret r_11_camp_9 rfl (Nat.le_refl _) ⟨rfl, ?_⟩
    exact h3 q1 q2 q3
set_option maxRecDepth 10000 in
theorem sp_X11_road {l : Launch} {w : Wo} {d : Nat} {G : PH} {P : Option PV → PH → Prop} {a b n : Int} (hc : 0 ≤ (gF G 2 0 2) ∧ (gF G 2 0 2) ≤ 16) (hr : ∀ k, 0 ≤ k → k < 324 → 0 ≤ (gA G 43 0 (k)) ∧ (gA G 43 0 (k)) ≤ 9) (h1 : ¬ ((((0 ≤ a ∧ a < (gF G 2 0 2)) ∨ a = 16 ∨ a = 17) ∧ ((0 ≤ b ∧ b < (gF G 2 0 2)) ∨ b = 16 ∨ b = 17)) ∧ (a ≠ b ∧ 1 ≤ n ∧ n ≤ 9) ∧ ((0 ≤ a ∧ a < (gF G 2 0 2)) → (0 ≤ b ∧ b < (gF G 2 0 2)) → (gA G 41 0 (a)) = (gA G 41 0 (b)))) → P (some (vI (-1))) G) (h2 : (((0 ≤ a ∧ a < (gF G 2 0 2)) ∨ a = 16 ∨ a = 17) ∧ ((0 ≤ b ∧ b < (gF G 2 0 2)) ∨ b = 16 ∨ b = 17)) → (a ≠ b ∧ 1 ≤ n ∧ n ≤ 9) → ((0 ≤ a ∧ a < (gF G 2 0 2)) → (0 ≤ b ∧ b < (gF G 2 0 2)) → (gA G 41 0 (a)) = (gA G 41 0 (b))) → ∀ m, (((gA G 43 0 (a * 18 + b)) = 0 ∧ m = n) ∨ (0 < (gA G 43 0 (a * 18 + b)) ∧ m = min (gA G 43 0 (a * 18 + b)) n)) → P (some (vI m)) (sA (sA G 43 0 (a * 18 + b) m) 43 0 (b * 18 + a) m)) : PW l w M_X11_road (d + 3) 0 [some (vR 11 (0)), some (vI (a)), some (vI (b)), some (vI (n))] [] G P := by
  refine pw_aload r_11_road_0 rfl ?_
  refine pw_getR r_11_road_1 fs_11_0 (by decide) ?_
  refine pw_iload r_11_road_4 rfl ?_
  refine pw_iload r_11_road_5 rfl ?_
  refine pw_iload r_11_road_6 rfl ?_
  refine pw_callV (av := [vI (a), vI (b), vI (n)]) (st := []) (ls0 := [some (vR 2 (0)), some (vI (a)), some (vI (b)), some (vI (n)), none, none]) r_11_road_7 rfl rfl rfl (Nat.le_refl _) ?_
  refine sp_X2_addRoad (by first | assumption | exact hc | omega) (by first | assumption | exact hr | omega) ?_ ?_
  · skip
    intro q1
    refine pw_iret r_11_road_10 rfl (Nat.le_refl _) ⟨rfl, ?_⟩
    exact h1 q1
  · skip
    intro q1 q2 q3 m q4
    refine pw_iret r_11_road_10 rfl (Nat.le_refl _) ⟨rfl, ?_⟩
    exact h2 q1 q2 q3 m q4
set_option maxRecDepth 10000 in
theorem sp_X11_far {l : Launch} {w : Wo} {d : Nat} {G : PH} {P : Option PV → PH → Prop} {c p : Int} (hc : 0 ≤ (gF G 2 0 2) ∧ (gF G 2 0 2) ≤ 16) (hr : ∀ k, 0 ≤ k → k < 324 → 0 ≤ (gA G 43 0 (k)) ∧ (gA G 43 0 (k)) ≤ 9) (h1 : ¬ ((0 ≤ c ∧ c < (gF G 2 0 2)) ∧ ((0 ≤ p ∧ p < (gF G 2 0 2)) ∨ p = 16 ∨ p = 17)) → P (some (vI (-1))) G) (h2 : (0 ≤ c ∧ c < (gF G 2 0 2)) → ((0 ≤ p ∧ p < (gF G 2 0 2)) ∨ p = 16 ∨ p = 17) → ∀ Dr fr, IsD (fun u v => (gA G 43 0 (u * 18 + v))) (fun u => ¬ (0 ≤ u ∧ u < (gF G 2 0 2)) ∨ (gA G 41 0 (u)) = (gA G 41 0 (c))) c 1000000000 Dr → (∀ v, 0 ≤ v → v < 18 → Dr v < 1000000000 → Dr v ≤ 162) → ∀ r, (1000000000 ≤ Dr p ∧ r = -4) ∨ (Dr p < 1000000000 ∧ r = Dr p) → P (some (vI r)) (uA (uA G 44 0 Dr) 45 0 fr)) : PW l w M_X11_far (d + 3) 0 [some (vR 11 (0)), some (vI (c)), some (vI (p))] [] G P := by
  refine pw_aload r_11_far_0 rfl ?_
  refine pw_getR r_11_far_1 fs_11_0 (by decide) ?_
  refine pw_iload r_11_far_4 rfl ?_
  refine pw_iload r_11_far_5 rfl ?_
  refine pw_callV (av := [vI (c), vI (p)]) (st := []) (ls0 := [some (vR 2 (0)), some (vI (c)), some (vI (p)), none, none]) r_11_far_6 rfl rfl rfl (Nat.le_refl _) ?_
  refine sp_X2_farFrom (by first | assumption | exact hc | omega) (by first | assumption | exact hr | omega) ?_ ?_
  · skip
    intro q1
    refine pw_iret r_11_far_9 rfl (Nat.le_refl _) ⟨rfl, ?_⟩
    exact h1 q1
  · skip
    intro q1 q2 Dr fr q3 q4 r q5
    refine pw_iret r_11_far_9 rfl (Nat.le_refl _) ⟨rfl, ?_⟩
    exact h2 q1 q2 Dr fr q3 q4 r q5
set_option maxRecDepth 10000 in
theorem call_camp {l : Launch} {w : Wo} {d : Nat} {G : PH} (hI : Inv w.1.2 G G) {s : Int} {n : Int} : CallOk l w d M_X11_camp M_X12_camp [some (vR 11 (0)), some (vI (s)), some (vI (n))] [some (vR 12 (0)), some (vI (s)), some (vI (n))] G := by
  obtain ⟨iL, iP, iS, iF, iO, iE, iT, iR, iB, iX, iH, iG, iQ, iN, iA, iJ⟩ := hI
  have hc : 0 ≤ (gF G 2 0 2) ∧ (gF G 2 0 2) ≤ 16 := ⟨iL.1.1, iL.1.2.1⟩
  have ec : (gF G 12 0 3) = (gF G 2 0 2) := iL.1.2.2
  have mhc : 0 ≤ (gF G 12 0 3) ∧ (gF G 12 0 3) ≤ 16 := by omega
  have hr : ∀ k, 0 ≤ k → k < 324 → 0 ≤ (gA G 43 0 (k)) ∧ (gA G 43 0 (k)) ≤ 9 := fun k a b => (iL.2.2.1 k a b).2
  have mhr : ∀ k, 0 ≤ k → k < 324 → 0 ≤ (gA G 202 0 (k)) ∧ (gA G 202 0 (k)) ≤ 9 := fun k a b => by have := iL.2.2.1 k a b; omega
  unfold CallOk CallPhi
  refine sp_X11_camp (d := d + 998) (by first | assumption | exact hc | omega) ?_ ?_ ?_
  · intro c1
    refine sp_X12_camp (d := d + 998) (by first | assumption | exact mhc | omega) ?_ ?_ ?_
    · intro m1
      replace m1 : ¬ ((0 ≤ s ∧ s ≤ 1) ∧ 1 ≤ n ∧ n ≤ 99) := m1
      exact ⟨⟨rfl, _, rfl⟩, iL, iP, iS, iF, iO, iE, iT, iR, iB, iX, iH, iG, iQ, iN, iA, iJ⟩
    · intro m1 m2 m3
      replace m1 : (0 ≤ s ∧ s ≤ 1) := m1
      replace m2 : 1 ≤ n ∧ n ≤ 99 := m2
      replace m3 : (gF G 12 (0) 3) = 16 := m3
      exfalso; omega
    · intro m1 m2 m3
      replace m1 : (0 ≤ s ∧ s ≤ 1) := m1
      replace m2 : 1 ≤ n ∧ n ≤ 99 := m2
      replace m3 : (gF G 12 (0) 3) < 16 := m3
      exfalso; omega
  · intro c1 c2 c3
    refine sp_X12_camp (d := d + 998) (by first | assumption | exact mhc | omega) ?_ ?_ ?_
    · intro m1
      replace m1 : ¬ ((0 ≤ s ∧ s ≤ 1) ∧ 1 ≤ n ∧ n ≤ 99) := m1
      exfalso; omega
    · intro m1 m2 m3
      replace m1 : (0 ≤ s ∧ s ≤ 1) := m1
      replace m2 : 1 ≤ n ∧ n ≤ 99 := m2
      replace m3 : (gF G 12 (0) 3) = 16 := m3
      exact ⟨⟨rfl, _, rfl⟩, iL, iP, iS, iF, iO, iE, iT, iR, iB, iX, iH, iG, iQ, iN, iA, iJ⟩
    · intro m1 m2 m3
      replace m1 : (0 ≤ s ∧ s ≤ 1) := m1
      replace m2 : 1 ≤ n ∧ n ≤ 99 := m2
      replace m3 : (gF G 12 (0) 3) < 16 := m3
      exfalso; omega
  · intro c1 c2 c3
    refine sp_X12_camp (d := d + 998) (by first | assumption | exact mhc | omega) ?_ ?_ ?_
    · intro m1
      replace m1 : ¬ ((0 ≤ s ∧ s ≤ 1) ∧ 1 ≤ n ∧ n ≤ 99) := m1
      exfalso; omega
    · intro m1 m2 m3
      replace m1 : (0 ≤ s ∧ s ≤ 1) := m1
      replace m2 : 1 ≤ n ∧ n ≤ 99 := m2
      replace m3 : (gF G 12 (0) 3) = 16 := m3
      exfalso; omega
    · intro m1 m2 m3
      replace m1 : (0 ≤ s ∧ s ≤ 1) := m1
      replace m2 : 1 ≤ n ∧ n ≤ 99 := m2
      replace m3 : (gF G 12 (0) 3) < 16 := m3
      show (some (vI (gF G 12 (0) 3)) = some (vI (gF G 2 0 2)) ∧ ∃ vz, some (vI (gF G 2 0 2)) = some (vI vz)) ∧ Inv w.1.2 (sF (sA (sA (sF (sA (sA G 41 (0) (gF G 2 0 2) (s)) 42 (0) (gF G 2 0 2) (n)) 2 (0) 2 ((gF G 2 0 2) + 1)) 200 (0) (gF (sF (sA (sA G 41 (0) (gF G 2 0 2) (s)) 42 (0) (gF G 2 0 2) (n)) 2 (0) 2 ((gF G 2 0 2) + 1)) 12 0 3) (s)) 201 (0) (gF (sF (sA (sA G 41 (0) (gF G 2 0 2) (s)) 42 (0) (gF G 2 0 2) (n)) 2 (0) 2 ((gF G 2 0 2) + 1)) 12 0 3) (n)) 12 (0) 3 ((gF G 12 (0) 3) + 1)) (sF (sA (sA (sF (sA (sA G 41 (0) (gF G 2 0 2) (s)) 42 (0) (gF G 2 0 2) (n)) 2 (0) 2 ((gF G 2 0 2) + 1)) 200 (0) (gF (sF (sA (sA G 41 (0) (gF G 2 0 2) (s)) 42 (0) (gF G 2 0 2) (n)) 2 (0) 2 ((gF G 2 0 2) + 1)) 12 0 3) (s)) 201 (0) (gF (sF (sA (sA G 41 (0) (gF G 2 0 2) (s)) 42 (0) (gF G 2 0 2) (n)) 2 (0) 2 ((gF G 2 0 2) + 1)) 12 0 3) (n)) 12 (0) 3 ((gF G 12 (0) 3) + 1))
      refine ⟨⟨by rw [ec], _, rfl⟩, ?_, ?_, iS, iF, iO, iE, iT, iR, iB, iX, ?_, iG, iQ, iN, iA, ?_⟩
      · rw [ec]
        refine ⟨⟨?_, ?_, ?_⟩, ?_, iL.2.2.1, fun u v a b c f e => ?_⟩
        · simp only [gF_sF, gF_sA, gF_uA, gF_sD, gA_sF, gA_sA, gA_uA, gA_sD, gD_sF, gD_sA, gD_uA, gD_sD, Nat.reduceEqDiff, reduceCtorEq, false_and, and_false, true_and, and_true, ite_true, ite_false, if_true, if_false, ↓reduceIte, and_self]
          omega
        · simp only [gF_sF, gF_sA, gF_uA, gF_sD, gA_sF, gA_sA, gA_uA, gA_sD, gD_sF, gD_sA, gD_uA, gD_sD, Nat.reduceEqDiff, reduceCtorEq, false_and, and_false, true_and, and_true, ite_true, ite_false, if_true, if_false, ↓reduceIte, and_self]
          omega
        · simp only [gF_sF, gF_sA, gF_uA, gF_sD, gA_sF, gA_sA, gA_uA, gA_sD, gD_sF, gD_sA, gD_uA, gD_sD, Nat.reduceEqDiff, reduceCtorEq, false_and, and_false, true_and, and_true, ite_true, ite_false, if_true, if_false, ↓reduceIte, and_self]
        · simp only [gF_sF, gF_sA, gF_uA, gF_sD, gA_sF, gA_sA, gA_uA, gA_sD, gD_sF, gD_sA, gD_uA, gD_sD, Nat.reduceEqDiff, reduceCtorEq, false_and, and_false, true_and, and_true, ite_true, ite_false, if_true, if_false, ↓reduceIte, and_self]
          refine all_s (fun i a b => ?_) ?_
          · have e : i ≠ (gF G 2 0 2) := by omega
            simp only [gF_sF, gF_sA, gF_uA, gF_sD, gA_sF, gA_sA, gA_uA, gA_sD, gD_sF, gD_sA, gD_uA, gD_sD, Nat.reduceEqDiff, reduceCtorEq, false_and, and_false, true_and, and_true, ite_true, ite_false, if_true, if_false, ↓reduceIte, and_self, e, ec]
            exact iL.2.1 i a b
          · simp only [gF_sF, gF_sA, gF_uA, gF_sD, gA_sF, gA_sA, gA_uA, gA_sD, gD_sF, gD_sA, gD_uA, gD_sD, Nat.reduceEqDiff, reduceCtorEq, false_and, and_false, true_and, and_true, ite_true, ite_false, if_true, if_false, ↓reduceIte, and_self, ec]
            omega
        · have := iL.2.2.2 u v a b c f e
          unfold ptOk at this ⊢
          simp only [gF_sF, gF_sA, gF_uA, gF_sD, gA_sF, gA_sA, gA_uA, gA_sD, gD_sF, gD_sA, gD_uA, gD_sD, Nat.reduceEqDiff, reduceCtorEq, false_and, and_false, true_and, and_true, ite_true, ite_false, if_true, if_false, ↓reduceIte, and_self]
          omega
      · exact ⟨iP.1, iP.2.1, iP.2.2.1, fun i a b => pers1_camp (n := (gF G 2 0 2)) (iP.2.2.2 i a b) (by simp only [gF_sF, gF_sA, gF_uA, gF_sD, gA_sF, gA_sA, gA_uA, gA_sD, gD_sF, gD_sA, gD_uA, gD_sD, Nat.reduceEqDiff, reduceCtorEq, false_and, and_false, true_and, and_true, ite_true, ite_false, if_true, if_false, ↓reduceIte, and_self]; omega)⟩
      · exact ⟨iH.1, fun i a b => by have := iH.2.1 i a b; refine ⟨⟨this.1.1, this.1.2.1, ?_⟩, this.2⟩; simp only [gF_sF, gF_sA, gF_uA, gF_sD, gA_sF, gA_sA, gA_uA, gA_sD, gD_sF, gD_sA, gD_uA, gD_sD, Nat.reduceEqDiff, reduceCtorEq, false_and, and_false, true_and, and_true, ite_true, ite_false, if_true, if_false, ↓reduceIte, and_self]; omega, iH.2.2⟩
      · intro i a b
        have h := iJ i a b
        have hp := iP.2.2.2 i a b
        have h11 := hp.2.2.2.2.2.2.2.2.2.2.1
        have h12 := hp.2.2.2.2.2.2.2.2.2.2.2.1
        unfold sideOk at h ⊢
        refine ⟨fun q => ?_, fun q z => ?_⟩
        · have g := h11 q
          have e : (gF G 3 (i) 10) ≠ (gF G 2 0 2) := by omega
          simp only [gF_sF, gF_sA, gF_uA, gF_sD, gA_sF, gA_sA, gA_uA, gA_sD, gD_sF, gD_sA, gD_uA, gD_sD, Nat.reduceEqDiff, reduceCtorEq, false_and, and_false, true_and, and_true, ite_true, ite_false, if_true, if_false, ↓reduceIte, and_self, e]
          exact h.1 q
        · have g := (h12 q).2.1
          unfold ptOk at g
          replace z : (gF G 3 (i) 10) < 16 := z
          have e : (gF G 3 (i) 10) ≠ (gF G 2 0 2) := by omega
          simp only [gF_sF, gF_sA, gF_uA, gF_sD, gA_sF, gA_sA, gA_uA, gA_sD, gD_sF, gD_sA, gD_uA, gD_sD, Nat.reduceEqDiff, reduceCtorEq, false_and, and_false, true_and, and_true, ite_true, ite_false, if_true, if_false, ↓reduceIte, and_self, e]
          exact h.2 q z
set_option maxRecDepth 10000 in
theorem call_road {l : Launch} {w : Wo} {d : Nat} {G : PH} (hI : Inv w.1.2 G G) {a : Int} {b : Int} {n : Int} : CallOk l w d M_X11_road M_X12_road [some (vR 11 (0)), some (vI (a)), some (vI (b)), some (vI (n))] [some (vR 12 (0)), some (vI (a)), some (vI (b)), some (vI (n)), none, none] G := by
  obtain ⟨iL, iP, iS, iF, iO, iE, iT, iR, iB, iX, iH, iG, iQ, iN, iA, iJ⟩ := hI
  have hc : 0 ≤ (gF G 2 0 2) ∧ (gF G 2 0 2) ≤ 16 := ⟨iL.1.1, iL.1.2.1⟩
  have ec : (gF G 12 0 3) = (gF G 2 0 2) := iL.1.2.2
  have mhc : 0 ≤ (gF G 12 0 3) ∧ (gF G 12 0 3) ≤ 16 := by omega
  have hr : ∀ k, 0 ≤ k → k < 324 → 0 ≤ (gA G 43 0 (k)) ∧ (gA G 43 0 (k)) ≤ 9 := fun k a b => (iL.2.2.1 k a b).2
  have mhr : ∀ k, 0 ≤ k → k < 324 → 0 ≤ (gA G 202 0 (k)) ∧ (gA G 202 0 (k)) ≤ 9 := fun k a b => by have := iL.2.2.1 k a b; omega
  have hs : ∀ i, 0 ≤ i → i < (gF G 2 0 2) → (gA G 200 0 (i)) = (gA G 41 0 (i)) := fun i x y => (iL.2.1 i x y).1
  have ha := hs a
  have hb := hs b
  unfold CallOk CallPhi
  refine sp_X11_road (d := d + 997) (by first | assumption | exact hc | omega) (by first | assumption | exact hr | omega) ?_ ?_
  · intro c1
    refine sp_X12_road (d := d + 998) (by first | assumption | exact mhc | omega) (by first | assumption | exact mhr | omega) ?_ ?_
    · intro m1
      replace m1 : ¬ ((((0 ≤ a ∧ a < (gF G 12 (0) 3)) ∨ a = 16 ∨ a = 17) ∧ ((0 ≤ b ∧ b < (gF G 12 (0) 3)) ∨ b = 16 ∨ b = 17)) ∧ (a ≠ b ∧ 1 ≤ n ∧ n ≤ 9) ∧ (a < 16 → b < 16 → (gA G 200 (0) (a)) = (gA G 200 (0) (b)))) := m1
      exact ⟨⟨rfl, _, rfl⟩, iL, iP, iS, iF, iO, iE, iT, iR, iB, iX, iH, iG, iQ, iN, iA, iJ⟩
    · intro m1 m2 m3 mr m4
      replace m1 : (((0 ≤ a ∧ a < (gF G 12 (0) 3)) ∨ a = 16 ∨ a = 17) ∧ ((0 ≤ b ∧ b < (gF G 12 (0) 3)) ∨ b = 16 ∨ b = 17)) := m1
      replace m2 : (a ≠ b ∧ 1 ≤ n ∧ n ≤ 9) := m2
      replace m3 : (a < 16 → b < 16 → (gA G 200 (0) (a)) = (gA G 200 (0) (b))) := m3
      replace m4 : (((gA G 202 (0) (18 * a + b)) = 0 ∧ mr = n) ∨ (0 < (gA G 202 (0) (18 * a + b)) ∧ mr = min (gA G 202 (0) (18 * a + b)) n)) := m4
      exfalso; omega
  · intro c1 c2 c3 m c4
    refine sp_X12_road (d := d + 998) (by first | assumption | exact mhc | omega) (by first | assumption | exact mhr | omega) ?_ ?_
    · intro m1
      replace m1 : ¬ ((((0 ≤ a ∧ a < (gF G 12 (0) 3)) ∨ a = 16 ∨ a = 17) ∧ ((0 ≤ b ∧ b < (gF G 12 (0) 3)) ∨ b = 16 ∨ b = 17)) ∧ (a ≠ b ∧ 1 ≤ n ∧ n ≤ 9) ∧ (a < 16 → b < 16 → (gA G 200 (0) (a)) = (gA G 200 (0) (b)))) := m1
      exfalso; omega
    · intro m1 m2 m3 mr m4
      replace m1 : (((0 ≤ a ∧ a < (gF G 12 (0) 3)) ∨ a = 16 ∨ a = 17) ∧ ((0 ≤ b ∧ b < (gF G 12 (0) 3)) ∨ b = 16 ∨ b = 17)) := m1
      replace m2 : (a ≠ b ∧ 1 ≤ n ∧ n ≤ 9) := m2
      replace m3 : (a < 16 → b < 16 → (gA G 200 (0) (a)) = (gA G 200 (0) (b))) := m3
      replace m4 : (((gA G 202 (0) (18 * a + b)) = 0 ∧ mr = n) ∨ (0 < (gA G 202 (0) (18 * a + b)) ∧ mr = min (gA G 202 (0) (18 * a + b)) n)) := m4
      show (some (vI mr) = some (vI m) ∧ ∃ vz, some (vI m) = some (vI vz)) ∧ Inv w.1.2 (sA (sA (sA (sA G 43 (0) (a * 18 + b) (m)) 43 (0) (b * 18 + a) (m)) 202 (0) (18 * a + b) (mr)) 202 (0) (18 * b + a) (mr)) (sA (sA (sA (sA G 43 (0) (a * 18 + b) (m)) 43 (0) (b * 18 + a) (m)) 202 (0) (18 * a + b) (mr)) 202 (0) (18 * b + a) (mr))
      have hab : (gA G 202 0 (18 * a + b)) = (gA G 43 0 (a * 18 + b)) := by rw [show 18 * a + b = a * 18 + b by omega]; exact (iL.2.2.1 (a * 18 + b) (by omega) (by omega)).1
      have em : mr = m := by omega
      subst em
      rw [show 18 * a + b = a * 18 + b by omega, show 18 * b + a = b * 18 + a by omega]
      refine ⟨⟨rfl, _, rfl⟩, ?_, iP, iS, iF, iO, iE, iT, iR, iB, iX, iH, iG, iQ, iN, iA, iJ⟩
      refine ⟨iL.1, iL.2.1, fun k x y => ?_, fun u v x y z t e => ?_⟩
      · simp only [gF_sF, gF_sA, gF_uA, gF_sD, gA_sF, gA_sA, gA_uA, gA_sD, gD_sF, gD_sA, gD_uA, gD_sD, Nat.reduceEqDiff, reduceCtorEq, false_and, and_false, true_and, and_true, ite_true, ite_false, if_true, if_false, ↓reduceIte, and_self]
        have := iL.2.2.1 k x y
        have := hr (a * 18 + b) (by omega) (by omega)
        refine ⟨?_, ?_⟩
        · split
          · rfl
          · split
            · rfl
            · omega
        · split
          · omega
          · split <;> omega
      · have h0 := iL.2.2.2 u v x y z t
        revert e
        simp only [gF_sF, gF_sA, gF_uA, gF_sD, gA_sF, gA_sA, gA_uA, gA_sD, gD_sF, gD_sA, gD_uA, gD_sD, Nat.reduceEqDiff, reduceCtorEq, false_and, and_false, true_and, and_true, ite_true, ite_false, if_true, if_false, ↓reduceIte, and_self]
        unfold ptOk at h0 ⊢
        split
        · intro _; omega
        · split
          · intro _; omega
          · intro e; exact h0 e
set_option maxRecDepth 10000 in
theorem call_far {l : Launch} {w : Wo} {d : Nat} {G : PH} (hI : Inv w.1.2 G G) {c : Int} {p : Int} : CallOk l w d M_X11_far M_X12_far [some (vR 11 (0)), some (vI (c)), some (vI (p))] [some (vR 12 (0)), some (vI (c)), some (vI (p)), none] G := by
  obtain ⟨iL, iP, iS, iF, iO, iE, iT, iR, iB, iX, iH, iG, iQ, iN, iA, iJ⟩ := hI
  have hc : 0 ≤ (gF G 2 0 2) ∧ (gF G 2 0 2) ≤ 16 := ⟨iL.1.1, iL.1.2.1⟩
  have ec : (gF G 12 0 3) = (gF G 2 0 2) := iL.1.2.2
  have mhc : 0 ≤ (gF G 12 0 3) ∧ (gF G 12 0 3) ≤ 16 := by omega
  have hr : ∀ k, 0 ≤ k → k < 324 → 0 ≤ (gA G 43 0 (k)) ∧ (gA G 43 0 (k)) ≤ 9 := fun k a b => (iL.2.2.1 k a b).2
  have mhr : ∀ k, 0 ≤ k → k < 324 → 0 ≤ (gA G 202 0 (k)) ∧ (gA G 202 0 (k)) ≤ 9 := fun k a b => by have := iL.2.2.1 k a b; omega
  unfold CallOk CallPhi
  refine sp_X11_far (d := d + 997) (by first | assumption | exact hc | omega) (by first | assumption | exact hr | omega) ?_ ?_
  · intro c1
    refine sp_X12_far (d := d + 998) (by first | assumption | exact mhc | omega) (by first | assumption | exact mhr | omega) ?_ ?_
    · intro m1
      replace m1 : ¬ ((0 ≤ c ∧ c < (gF G 12 (0) 3)) ∧ ((0 ≤ p ∧ p < (gF G 12 (0) 3)) ∨ p = 16 ∨ p = 17)) := m1
      exact ⟨⟨rfl, _, rfl⟩, iL, iP, iS, iF, iO, iE, iT, iR, iB, iX, iH, iG, iQ, iN, iA, iJ⟩
    · intro m1 m2 Dm m3 rm m4
      replace m1 : (0 ≤ c ∧ c < (gF G 12 (0) 3)) := m1
      replace m2 : ((0 ≤ p ∧ p < (gF G 12 (0) 3)) ∨ p = 16 ∨ p = 17) := m2
      replace m3 : IsD (fun u v => (gA G 202 (0) (18 * u + v))) (fun u => u = c ∨ 16 ≤ u ∨ (gA G 200 (0) (u)) = (gA G 200 (0) (c))) c 100000 Dm := m3
      replace m4 : (100000 ≤ Dm p ∧ rm = -4) ∨ (Dm p < 100000 ∧ rm = Dm p) := m4
      exfalso; omega
  · intro c1 c2 Dr fr c3 c4 r c5
    refine sp_X12_far (d := d + 998) (by first | assumption | exact mhc | omega) (by first | assumption | exact mhr | omega) ?_ ?_
    · intro m1
      replace m1 : ¬ ((0 ≤ c ∧ c < (gF G 12 (0) 3)) ∧ ((0 ≤ p ∧ p < (gF G 12 (0) 3)) ∨ p = 16 ∨ p = 17)) := m1
      exfalso; omega
    · intro m1 m2 Dm m3 rm m4
      replace m1 : (0 ≤ c ∧ c < (gF G 12 (0) 3)) := m1
      replace m2 : ((0 ≤ p ∧ p < (gF G 12 (0) 3)) ∨ p = 16 ∨ p = 17) := m2
      replace m3 : IsD (fun u v => (gA G 202 (0) (18 * u + v))) (fun u => u = c ∨ 16 ≤ u ∨ (gA G 200 (0) (u)) = (gA G 200 (0) (c))) c 100000 Dm := m3
      replace m4 : (100000 ≤ Dm p ∧ rm = -4) ∨ (Dm p < 100000 ∧ rm = Dm p) := m4
      show (some (vI rm) = some (vI r) ∧ ∃ vz, some (vI r) = some (vI vz)) ∧ Inv w.1.2 (uA (uA (uA G 44 (0) (Dr)) 45 (0) (fr)) 234 (0) (Dm)) (uA (uA (uA G 44 (0) (Dr)) 45 (0) (fr)) 234 (0) (Dm))
      have hD1 := IsD_congr (E' := fun u v => (gA G 43 0 (u * 18 + v))) (T' := fun u => ¬ (0 ≤ u ∧ u < (gF G 2 0 2)) ∨ (gA G 41 0 (u)) = (gA G 41 0 (c))) (fun u v x y z t => by show (gA G 202 0 (18 * u + v)) = (gA G 43 0 (u * 18 + v)); rw [show 18 * u + v = u * 18 + v by omega]; exact (iL.2.2.1 (u * 18 + v) (by omega) (by omega)).1) (fun u v x y z t e => far_thr iL c1 x y z t e) m3
      have hf := far_one hD1 c3 (by decide) (fun v x y z => by have := c4 v x y z; omega) (v := p) (by omega) (by omega)
      have em : rm = r := by omega
      subst em
      exact ⟨⟨rfl, _, rfl⟩, iL, iP, iS, iF, iO, iE, iT, iR, iB, iX, iH, iG, iQ, iN, iA, iJ⟩
