theorem wd_m11_100 : Cond.methodLink "NameRolls" 100 M_X1_enrol.1 ∈ UW := UW3_at 117 (by decide +kernel) rfl
theorem wd_s1_enrol : Cond.selects M_X1_enrol.1.cls M_X1_enrol.1 M_X1_enrol.1 ∈ UW := UW3_at 119 (by decide +kernel) rfl
theorem r_11_person_0 : RA M_X11_person 0 0 1 := Or.inl ⟨0, by decide +kernel, rfl, rfl⟩
theorem r_11_person_1 : RG M_X11_person 1 11 1 4 := ⟨21, _, by decide +kernel, rfl, by decide, wd_f11_21, rfl, rfl⟩
theorem r_11_person_4 : RL M_X11_person 4 1 5 := Or.inl ⟨1, by decide +kernel, rfl, rfl⟩
theorem r_11_person_5 : RL M_X11_person 5 2 6 := Or.inl ⟨2, by decide +kernel, rfl, rfl⟩
theorem r_11_person_6 : RL M_X11_person 6 3 7 := Or.inl ⟨3, by decide +kernel, rfl, rfl⟩
theorem r_11_person_7 : RL M_X11_person 7 4 9 := Or.inr ⟨by decide +kernel, rfl⟩
theorem r_11_person_9 : RL M_X11_person 9 5 11 := Or.inr ⟨by decide +kernel, rfl⟩
theorem r_11_person_11 : RKv M_X11_person M_X1_enrol 11 5 1 14 := ⟨100, by decide +kernel, wd_m11_100, ok_M_X1_enrol, wd_s1_enrol, rfl⟩
theorem r_11_person_14 : RW M_X11_person 14 .ireturn 15 1 := ⟨by decide +kernel, rfl⟩
set_option maxRecDepth 10000 in
theorem sp_X11_person {l : Launch} {w : Wo} {d : Nat} {G : PH} {Φ : Wo → Option PV → PH → Prop} {k c a v g z : Int} (hp : ∀ i, 0 ≤ i → i < (gF G 1 0 1) → gD G 30 0 i = some (3, i)) (hsz : 0 ≤ (gF G 1 0 1) ∧ (gF G 1 0 1) ≤ 150) (hst : 0 ≤ (gF G 1 0 3) ∧ (gF G 1 0 3) ≤ 400) (hz : (gF G 1 0 1) = z) (hnp : z = (w.1.2 : Int)) (hc : 0 ≤ (gF G 2 0 2) ∧ (gF G 2 0 2) ≤ 16) (h1 : ¬ (((1 ≤ k ∧ k ≤ 7) ∧ (0 ≤ c ∧ c < (gF G 2 0 2)) ∧ 0 ≤ a ∧ a ≤ 99) ∧ (v = -1 ∨ (k = 6 ∧ (0 ≤ v ∧ v < (gF G 1 0 1)) ∧ (gF G 3 (v) 2) = (gA G 41 0 (c)))) ∧ ((k = 2 ∧ 1 ≤ g ∧ g ≤ 9) ∨ (k ≠ 2 ∧ g = 0))) → Φ w (some (vI (-1))) G) (h2 : (((1 ≤ k ∧ k ≤ 7) ∧ (0 ≤ c ∧ c < (gF G 2 0 2)) ∧ 0 ≤ a ∧ a ≤ 99) ∧ (v = -1 ∨ (k = 6 ∧ (0 ≤ v ∧ v < (gF G 1 0 1)) ∧ (gF G 3 (v) 2) = (gA G 41 0 (c)))) ∧ ((k = 2 ∧ 1 ≤ g ∧ g ≤ 9) ∨ (k ≠ 2 ∧ g = 0))) → ¬ cnt (fun i => (gF G 3 (i) 8) ≤ 1 ∧ (gF G 3 (i) 10) = c) (gF G 1 0 1) < (gA G 42 0 (c)) → Φ w (some (vI (-3))) G) (h3 : (((1 ≤ k ∧ k ≤ 7) ∧ (0 ≤ c ∧ c < (gF G 2 0 2)) ∧ 0 ≤ a ∧ a ≤ 99) ∧ (v = -1 ∨ (k = 6 ∧ (0 ≤ v ∧ v < (gF G 1 0 1)) ∧ (gF G 3 (v) 2) = (gA G 41 0 (c)))) ∧ ((k = 2 ∧ 1 ≤ g ∧ g ≤ 9) ∨ (k ≠ 2 ∧ g = 0))) → cnt (fun i => (gF G 3 (i) 8) ≤ 1 ∧ (gF G 3 (i) 10) = c) (gF G 1 0 1) < (gA G 42 0 (c)) → (150 ≤ (gF G 1 0 1) ∨ ¬ ((gF G 1 0 3) + cnt (fun i => (gF G 3 (i) 8) = 1 ∧ 0 ≤ (gF G 3 (i) 10) ∧ (gF G 3 (i) 10) < (gF G 2 0 2)) (gF G 1 0 1) < 400)) → Φ w (some (vI (-2))) G) (h4 : (((1 ≤ k ∧ k ≤ 7) ∧ (0 ≤ c ∧ c < (gF G 2 0 2)) ∧ 0 ≤ a ∧ a ≤ 99) ∧ (v = -1 ∨ (k = 6 ∧ (0 ≤ v ∧ v < (gF G 1 0 1)) ∧ (gF G 3 (v) 2) = (gA G 41 0 (c)))) ∧ ((k = 2 ∧ 1 ≤ g ∧ g ≤ 9) ∨ (k ≠ 2 ∧ g = 0))) → cnt (fun i => (gF G 3 (i) 8) ≤ 1 ∧ (gF G 3 (i) 10) = c) (gF G 1 0 1) < (gA G 42 0 (c)) → (gF G 1 0 1) < 150 → ((gF G 1 0 3) + cnt (fun i => (gF G 3 (i) 8) = 1 ∧ 0 ≤ (gF G 3 (i) 10) ∧ (gF G 3 (i) 10) < (gF G 2 0 2)) (gF G 1 0 1) < 400) → ∀ w1 : Wo, w1.2 = w.2 → w1.1.2 = w.1.2 + 1 → Agr w w1 → Φ w1 (some (vI z)) (sF (sA (sA (sA (sA (sF (sD (sF (sF ((sF (sF (sF (sF (sF (sF (sF (sF (sF ((nwG G z)) 3 (z) 0 (z)) 3 (z) 1 (k)) 3 (z) 2 ((gA G 41 0 (c)))) 3 (z) 3 (a)) 3 (z) 4 (v)) 3 (z) 5 ((gF G 1 0 2))) 3 (z) 7 ((gF G 1 0 2))) 3 (z) 9 ((gF G 1 0 2))) 3 (z) 11 (-1))) 3 (z) 6 (g)) 3 (z) 10 (c)) 30 0 (z) (some (3, z))) 1 0 1 (z + 1)) 32 0 ((gF G 1 0 3)) (z)) 33 0 ((gF G 1 0 3)) (c)) 34 0 ((gF G 1 0 3)) ((gF G 1 0 2))) 35 0 ((gF G 1 0 3)) (-1)) 1 0 3 ((gF G 1 0 3) + 1))) : PWg l w M_X11_person (d + 4) 1 0 0 [some (vR 11 0), some (vI (k)), some (vI (c)), some (vI (a)), some (vI (v)), some (vI (g))] [] G Φ := by
  refine pw_aload r_11_person_0 rfl ?_
  refine pw_getR r_11_person_1 fs_11_1 (by decide) ?_
  refine pw_iload r_11_person_4 rfl ?_
  refine pw_iload r_11_person_5 rfl ?_
  refine pw_iload r_11_person_6 rfl ?_
  refine pw_iload r_11_person_7 rfl ?_
  refine pw_iload r_11_person_9 rfl ?_
  refine pw_callVg (av := [vI (k), vI (c), vI (a), vI (v), vI (g)]) (st := []) (r0 := 0) (K' := 1) (Φc := fun w1 r1 G1 => (Agr w w1 ∧ ∃ v1, r1 = some (vI v1)) ∧ Φ w1 r1 G1) r_11_person_11 rfl rfl (by decide) ?_ (fun w1 r1 G1 h9 => ?_)
  · exact sp_X1_enrol (hp) (hsz) (hst) (hz) (hnp) (hc) (fun q1 => ⟨⟨Agr.rf w, _, rfl⟩, h1 q1⟩) (fun q1 q2 => ⟨⟨Agr.rf w, _, rfl⟩, h2 q1 q2⟩) (fun q1 q2 q3 => ⟨⟨Agr.rf w, _, rfl⟩, h3 q1 q2 q3⟩) (fun q1 q2 q3 q4 w1 e1 e2 e3 => ⟨⟨e3, _, rfl⟩, h4 q1 q2 q3 q4 w1 e1 e2 e3⟩)
  · obtain ⟨⟨hA, v1, rfl⟩, hF⟩ := h9
    exact ⟨hA, pw_iret r_11_person_14 rfl (by decide) hF⟩
/-- for the call that makes a person -/
def CallOkP (l : Launch) (w : Wo) (d : Nat) (M1 M2 : MI) (a1 a2 : List (Option PV)) (G : PH) : Prop := PWg l w M1 (d + 1000) 1 0 0 a1 [] G (fun w1 r G1 => Agr w w1 ∧ PW l w1 M2 (d + 1000) 0 a2 [] G1 (fun r2 G2 => (r2 = r ∧ ∃ v, r = some (vI v)) ∧ Inv w1.1.2 G2 G2))
set_option maxRecDepth 10000 in
theorem call_person {l : Launch} {w : Wo} {d : Nat} {G : PH} (hI : Inv w.1.2 G G) {k c a v g : Int} : CallOkP l w d M_X11_person M_X12_person [some (vR 11 0), some (vI (k)), some (vI (c)), some (vI (a)), some (vI (v)), some (vI (g))] [some (vR 12 (0)), some (vI (k)), some (vI (c)), some (vI (a)), some (vI (v)), some (vI (g)), none, none] G := by
  obtain ⟨iL, iP, iS, iF, iO, iE, iT, iR, iB, iX, iH, iG, iQ, iN, iA, iJ⟩ := hI
  have hc : 0 ≤ (gF G 2 0 2) ∧ (gF G 2 0 2) ≤ 16 := ⟨iL.1.1, iL.1.2.1⟩
  have ec : (gF G 12 0 3) = (gF G 2 0 2) := iL.1.2.2
  have mhc : 0 ≤ (gF G 12 0 3) ∧ (gF G 12 0 3) ≤ 16 := by omega
  have hsz : 0 ≤ (gF G 1 0 1) ∧ (gF G 1 0 1) ≤ 150 := by have := iP.1; omega
  have ep : (gF G 12 0 17) = (gF G 1 0 1) := iP.1.2.2
  have mhsz : 0 ≤ (gF G 12 0 17) ∧ (gF G 12 0 17) ≤ 150 := by omega
  have hp : ∀ i, 0 ≤ i → i < (gF G 1 0 1) → gD G 30 0 i = some (3, i) := fun i a b => (iP.2.2.2 i a b).1.1
  have hcw := cnt_le (owP G) hsz.1
  have es : (gF G 12 0 22) = (gF G 1 0 3) := iS.1.1
  have hst : 0 ≤ (gF G 1 0 3) ∧ (gF G 1 0 3) ≤ 400 := by have := iS.1; omega
  have mhst : 0 ≤ (gF G 12 0 22) ∧ (gF G 12 0 22) ≤ 400 := by omega
  have hday : 0 ≤ (gF G 1 0 2) ∧ (gF G 1 0 2) ≤ 600 := iP.2.1.2
  have ed : (gF G 12 0 0) = (gF G 1 0 2) := iP.2.1.1
  have hnp : (gF G 1 0 1) = (w.1.2 : Int) := iP.1.1
  have hcs : (0 ≤ c ∧ c < (gF G 2 0 2)) → (gA G 200 0 (c)) = (gA G 41 0 (c)) ∧ (gA G 201 0 (c)) = (gA G 42 0 (c)) ∧ 0 ≤ (gA G 41 0 (c)) ∧ (gA G 41 0 (c)) ≤ 1 := fun q => by have := iL.2.1 c q.1 q.2; omega
  have hvs : (0 ≤ v ∧ v < (gF G 1 0 1)) → (gA G 205 0 (v)) = (gF G 3 (v) 2) := fun q => by have hpf := pf iP v; omega
  have hPK : (((1 ≤ k ∧ k ≤ 7) ∧ (0 ≤ c ∧ c < (gF G 12 0 3)) ∧ 0 ≤ a ∧ a ≤ 99) ∧ (v = -1 ∨ (k = 6 ∧ (0 ≤ v ∧ v < (gF G 12 0 17)) ∧ (gA G 205 0 (v)) = (gA G 200 0 (c)))) ∧ ((k = 2 ∧ 1 ≤ g ∧ g ≤ 9) ∨ (k ≠ 2 ∧ g = 0))) ↔ (((1 ≤ k ∧ k ≤ 7) ∧ (0 ≤ c ∧ c < (gF G 2 0 2)) ∧ 0 ≤ a ∧ a ≤ 99) ∧ (v = -1 ∨ (k = 6 ∧ (0 ≤ v ∧ v < (gF G 1 0 1)) ∧ (gF G 3 (v) 2) = (gA G 41 0 (c)))) ∧ ((k = 2 ∧ 1 ≤ g ∧ g ≤ 9) ∨ (k ≠ 2 ∧ g = 0))) := by rw [ec, ep]; omega
  have hcb := inbeds_eq iP c
  have how := onway_eq iP hc.2
  have hor := onroad_eq iP hc.2
  have hroom := iS.1.2.2
  have mroom : (gF G 12 0 22) + cnt (fun i => (gA G 206 0 (i)) = 1 ∧ (gA G 207 0 (i)) < 16) (gF G 12 0 17) ≤ 400 := by omega
  unfold CallOkP
  refine sp_X11_person (d := d + 996) hp hsz hst rfl hnp hc (fun c1 => ⟨Agr.rf w, ?_⟩) (fun c1 c2 => ⟨Agr.rf w, ?_⟩) (fun c1 c2 c3 => ⟨Agr.rf w, ?_⟩) (fun c1 c2 c3 c4 w1 e1 e2 e3 => ⟨e3, ?_⟩)
  · skip
    refine sp_X12_person (d := d + 998) mhsz mhst rfl mroom mhc ?_ ?_ ?_ ?_
    · intro m1
      exact ⟨⟨rfl, _, rfl⟩, iL, iP, iS, iF, iO, iE, iT, iR, iB, iX, iH, iG, iQ, iN, iA, iJ⟩
    · intro m1 m2
      exact absurd (hPK.mp m1) c1
    · intro m1 m2 m3
      exact absurd (hPK.mp m1) c1
    · intro m1 m2 m3 m4 m5
      exact absurd (hPK.mp m1) c1
  · skip
    refine sp_X12_person (d := d + 998) mhsz mhst rfl mroom mhc ?_ ?_ ?_ ?_
    · intro m1
      exact absurd (hPK.mpr c1) m1
    · intro m1 m2
      exact ⟨⟨rfl, _, rfl⟩, iL, iP, iS, iF, iO, iE, iT, iR, iB, iX, iH, iG, iQ, iN, iA, iJ⟩
    · intro m1 m2 m3
      have hbd := hcs c1.1.2.1
      exfalso; omega
    · intro m1 m2 m3 m4 m5
      have hbd := hcs c1.1.2.1
      exfalso; omega
  · skip
    refine sp_X12_person (d := d + 998) mhsz mhst rfl mroom mhc ?_ ?_ ?_ ?_
    · intro m1
      exact absurd (hPK.mpr c1) m1
    · intro m1 m2
      have hbd := hcs c1.1.2.1
      exfalso; omega
    · intro m1 m2 m3
      exact ⟨⟨rfl, _, rfl⟩, iL, iP, iS, iF, iO, iE, iT, iR, iB, iX, iH, iG, iQ, iN, iA, iJ⟩
    · intro m1 m2 m3 m4 m5
      have hbd := hcs c1.1.2.1
      exfalso; omega
  · skip
    refine sp_X12_person (d := d + 998) mhsz mhst rfl mroom mhc ?_ ?_ ?_ ?_
    · intro m1
      exact absurd (hPK.mpr c1) m1
    · intro m1 m2
      have hbd := hcs c1.1.2.1
      replace m2 : ¬ cnt (fun i => (gA G 206 0 (i)) ≤ 1 ∧ (gA G 207 0 (i)) = c) (gF G 12 0 17) < (gA G 201 0 (c)) := m2
      exfalso; omega
    · intro m1 m2 m3
      have hbd := hcs c1.1.2.1
      replace m3 : (gF G 12 0 17) = 150 ∨ (gF G 12 0 22) + cnt (fun i => (gA G 206 0 (i)) = 1 ∧ (gA G 207 0 (i)) < 16) (gF G 12 0 17) = 400 := m3
      exfalso; omega
    · intro m1 m2 m3 m4 m5
      have hbd := hcs c1.1.2.1
      have hk1 := c1.1.1
      have hk2 := c1.2.1
      have hk3 := c1.2.2
      have hcc := c1.1.2.1
      have hpd := iP.2.1
      show (some (vI (gF G 12 0 17)) = some (vI (gF G 1 0 1)) ∧ ∃ vz, some (vI (gF G 1 0 1)) = some (vI vz)) ∧ Inv w1.1.2 (sF (sA (sA (sA (sA (sA (sA (sA (sA (sF (sA (sA (sA (sA (sA (sA (sA (sF (sA (sA (sA (sA (sF (sD (sF (sF ((sF (sF (sF (sF (sF (sF (sF (sF (sF ((nwG G (gF G 1 0 1))) 3 (gF G 1 0 1) 0 (gF G 1 0 1)) 3 (gF G 1 0 1) 1 (k)) 3 (gF G 1 0 1) 2 ((gA G 41 0 (c)))) 3 (gF G 1 0 1) 3 (a)) 3 (gF G 1 0 1) 4 (v)) 3 (gF G 1 0 1) 5 ((gF G 1 0 2))) 3 (gF G 1 0 1) 7 ((gF G 1 0 2))) 3 (gF G 1 0 1) 9 ((gF G 1 0 2))) 3 (gF G 1 0 1) 11 (-1))) 3 (gF G 1 0 1) 6 (g)) 3 (gF G 1 0 1) 10 (c)) 30 0 (gF G 1 0 1) (some (3, (gF G 1 0 1)))) 1 0 1 ((gF G 1 0 1) + 1)) 32 0 ((gF G 1 0 3)) (gF G 1 0 1)) 33 0 ((gF G 1 0 3)) (c)) 34 0 ((gF G 1 0 3)) ((gF G 1 0 2))) 35 0 ((gF G 1 0 3)) (-1)) 1 0 3 ((gF G 1 0 3) + 1)) 204 0 ((gF G 12 0 17)) (k)) 205 0 ((gF G 12 0 17)) ((gA G 200 0 (c)))) 208 0 ((gF G 12 0 17)) (a)) 209 0 ((gF G 12 0 17)) (v)) 210 0 ((gF G 12 0 17)) (g)) 211 0 ((gF G 12 0 17)) ((gF G 12 0 0))) 212 0 ((gF G 12 0 17)) ((gF G 12 0 0))) 12 0 17 ((gF G 12 0 17) + 1)) 206 0 ((gF G 12 0 17)) (0)) 207 0 ((gF G 12 0 17)) (c)) 213 0 ((gF G 12 0 17)) ((gF G 12 0 0))) 214 0 ((gF G 12 0 17)) (-1)) 215 0 ((gF G 12 0 22)) ((gF G 12 0 17))) 216 0 ((gF G 12 0 22)) (c)) 217 0 ((gF G 12 0 22)) ((gF G 12 0 0))) 218 0 ((gF G 12 0 22)) (-1)) 12 0 22 ((gF G 12 0 22) + 1)) (sF (sA (sA (sA (sA (sA (sA (sA (sA (sF (sA (sA (sA (sA (sA (sA (sA (sF (sA (sA (sA (sA (sF (sD (sF (sF ((sF (sF (sF (sF (sF (sF (sF (sF (sF ((nwG G (gF G 1 0 1))) 3 (gF G 1 0 1) 0 (gF G 1 0 1)) 3 (gF G 1 0 1) 1 (k)) 3 (gF G 1 0 1) 2 ((gA G 41 0 (c)))) 3 (gF G 1 0 1) 3 (a)) 3 (gF G 1 0 1) 4 (v)) 3 (gF G 1 0 1) 5 ((gF G 1 0 2))) 3 (gF G 1 0 1) 7 ((gF G 1 0 2))) 3 (gF G 1 0 1) 9 ((gF G 1 0 2))) 3 (gF G 1 0 1) 11 (-1))) 3 (gF G 1 0 1) 6 (g)) 3 (gF G 1 0 1) 10 (c)) 30 0 (gF G 1 0 1) (some (3, (gF G 1 0 1)))) 1 0 1 ((gF G 1 0 1) + 1)) 32 0 ((gF G 1 0 3)) (gF G 1 0 1)) 33 0 ((gF G 1 0 3)) (c)) 34 0 ((gF G 1 0 3)) ((gF G 1 0 2))) 35 0 ((gF G 1 0 3)) (-1)) 1 0 3 ((gF G 1 0 3) + 1)) 204 0 ((gF G 12 0 17)) (k)) 205 0 ((gF G 12 0 17)) ((gA G 200 0 (c)))) 208 0 ((gF G 12 0 17)) (a)) 209 0 ((gF G 12 0 17)) (v)) 210 0 ((gF G 12 0 17)) (g)) 211 0 ((gF G 12 0 17)) ((gF G 12 0 0))) 212 0 ((gF G 12 0 17)) ((gF G 12 0 0))) 12 0 17 ((gF G 12 0 17) + 1)) 206 0 ((gF G 12 0 17)) (0)) 207 0 ((gF G 12 0 17)) (c)) 213 0 ((gF G 12 0 17)) ((gF G 12 0 0))) 214 0 ((gF G 12 0 17)) (-1)) 215 0 ((gF G 12 0 22)) ((gF G 12 0 17))) 216 0 ((gF G 12 0 22)) (c)) 217 0 ((gF G 12 0 22)) ((gF G 12 0 0))) 218 0 ((gF G 12 0 22)) (-1)) 12 0 22 ((gF G 12 0 22) + 1))
      rw [e2]
      refine ⟨⟨by rw [ep], _, rfl⟩, iL, ?_, ?_, ?_, iO, iE, iT, iR, iB, ?_, iH, iG, iQ, iN, iA, ?_⟩
      · refine ⟨⟨by simp only [gF_sF, gF_sA, gF_uA, gF_sD, gA_sF, gA_sA, gA_uA, gA_sD, gD_sF, gD_sA, gD_uA, gD_sD, Nat.reduceEqDiff, reduceCtorEq, false_and, and_false, true_and, and_true, ite_true, ite_false, if_true, if_false, ↓reduceIte, and_self, gF_nwG, gA_nwG, gD_nwG]; omega, by simp only [gF_sF, gF_sA, gF_uA, gF_sD, gA_sF, gA_sA, gA_uA, gA_sD, gD_sF, gD_sA, gD_uA, gD_sD, Nat.reduceEqDiff, reduceCtorEq, false_and, and_false, true_and, and_true, ite_true, ite_false, if_true, if_false, ↓reduceIte, and_self, gF_nwG, gA_nwG, gD_nwG]; omega, by simp only [gF_sF, gF_sA, gF_uA, gF_sD, gA_sF, gA_sA, gA_uA, gA_sD, gD_sF, gD_sA, gD_uA, gD_sD, Nat.reduceEqDiff, reduceCtorEq, false_and, and_false, true_and, and_true, ite_true, ite_false, if_true, if_false, ↓reduceIte, and_self, gF_nwG, gA_nwG, gD_nwG]; omega⟩, iP.2.1, iP.2.2.1, fun i x y => ?_⟩
        replace y : i < (gF G 1 0 1) + 1 := y
        by_cases e : i = (gF G 1 0 1)
        · subst e
          unfold pers1
          have ev : v ≠ (gF G 1 0 1) := by omega
          simp only [gF_sF, gF_sA, gF_uA, gF_sD, gA_sF, gA_sA, gA_uA, gA_sD, gD_sF, gD_sA, gD_uA, gD_sD, Nat.reduceEqDiff, reduceCtorEq, false_and, and_false, true_and, and_true, ite_true, ite_false, if_true, if_false, ↓reduceIte, and_self, gF_nwG, gA_nwG, gD_nwG, ep, ev]
          refine ⟨by omega, by omega, by omega, by omega, by omega, by omega, by omega, by omega, by omega, fun _ => by omega, fun q => absurd q (by decide), fun q => absurd q (by decide), fun _ => trivial⟩
        · have h := iP.2.2.2 i x (by omega)
          have hpf := pf iP i
          have e4 : (gF G 3 (i) 4) ≠ (gF G 1 0 1) := by have := h.2.2.2.2.1; omega
          unfold pers1 at h ⊢
          simp only [gF_sF, gF_sA, gF_uA, gF_sD, gA_sF, gA_sA, gA_uA, gA_sD, gD_sF, gD_sA, gD_uA, gD_sD, Nat.reduceEqDiff, reduceCtorEq, false_and, and_false, true_and, and_true, ite_true, ite_false, if_true, if_false, ↓reduceIte, and_self, gF_nwG, gA_nwG, gD_nwG, ep, e, e4]
          exact h
      · have hcn : cnt (owP (sF (sA (sA (sA (sA (sA (sA (sA (sA (sF (sA (sA (sA (sA (sA (sA (sA (sF (sA (sA (sA (sA (sF (sD (sF (sF ((sF (sF (sF (sF (sF (sF (sF (sF (sF ((nwG G (gF G 1 0 1))) 3 (gF G 1 0 1) 0 (gF G 1 0 1)) 3 (gF G 1 0 1) 1 (k)) 3 (gF G 1 0 1) 2 ((gA G 41 0 (c)))) 3 (gF G 1 0 1) 3 (a)) 3 (gF G 1 0 1) 4 (v)) 3 (gF G 1 0 1) 5 ((gF G 1 0 2))) 3 (gF G 1 0 1) 7 ((gF G 1 0 2))) 3 (gF G 1 0 1) 9 ((gF G 1 0 2))) 3 (gF G 1 0 1) 11 (-1))) 3 (gF G 1 0 1) 6 (g)) 3 (gF G 1 0 1) 10 (c)) 30 0 (gF G 1 0 1) (some (3, (gF G 1 0 1)))) 1 0 1 ((gF G 1 0 1) + 1)) 32 0 ((gF G 1 0 3)) (gF G 1 0 1)) 33 0 ((gF G 1 0 3)) (c)) 34 0 ((gF G 1 0 3)) ((gF G 1 0 2))) 35 0 ((gF G 1 0 3)) (-1)) 1 0 3 ((gF G 1 0 3) + 1)) 204 0 ((gF G 12 0 17)) (k)) 205 0 ((gF G 12 0 17)) ((gA G 200 0 (c)))) 208 0 ((gF G 12 0 17)) (a)) 209 0 ((gF G 12 0 17)) (v)) 210 0 ((gF G 12 0 17)) (g)) 211 0 ((gF G 12 0 17)) ((gF G 12 0 0))) 212 0 ((gF G 12 0 17)) ((gF G 12 0 0))) 12 0 17 ((gF G 12 0 17) + 1)) 206 0 ((gF G 12 0 17)) (0)) 207 0 ((gF G 12 0 17)) (c)) 213 0 ((gF G 12 0 17)) ((gF G 12 0 0))) 214 0 ((gF G 12 0 17)) (-1)) 215 0 ((gF G 12 0 22)) ((gF G 12 0 17))) 216 0 ((gF G 12 0 22)) (c)) 217 0 ((gF G 12 0 22)) ((gF G 12 0 0))) 218 0 ((gF G 12 0 22)) (-1)) 12 0 22 ((gF G 12 0 22) + 1))) ((gF G 1 0 1) + 1) = cnt (owP G) (gF G 1 0 1) := by
          rw [cnt_f hsz.1 (by unfold owP; simp only [gF_sF, gF_sA, gF_uA, gF_sD, gA_sF, gA_sA, gA_uA, gA_sD, gD_sF, gD_sA, gD_uA, gD_sD, Nat.reduceEqDiff, reduceCtorEq, false_and, and_false, true_and, and_true, ite_true, ite_false, if_true, if_false, ↓reduceIte, and_self, gF_nwG, gA_nwG, gD_nwG]; omega)]
          refine cnt_congr fun i x y => ?_
          have e : i ≠ (gF G 1 0 1) := by omega
          unfold owP
          simp only [gF_sF, gF_sA, gF_uA, gF_sD, gA_sF, gA_sA, gA_uA, gA_sD, gD_sF, gD_sA, gD_uA, gD_sD, Nat.reduceEqDiff, reduceCtorEq, false_and, and_false, true_and, and_true, ite_true, ite_false, if_true, if_false, ↓reduceIte, and_self, gF_nwG, gA_nwG, gD_nwG, e]
        refine ⟨⟨by simp only [gF_sF, gF_sA, gF_uA, gF_sD, gA_sF, gA_sA, gA_uA, gA_sD, gD_sF, gD_sA, gD_uA, gD_sD, Nat.reduceEqDiff, reduceCtorEq, false_and, and_false, true_and, and_true, ite_true, ite_false, if_true, if_false, ↓reduceIte, and_self, gF_nwG, gA_nwG, gD_nwG]; omega, by simp only [gF_sF, gF_sA, gF_uA, gF_sD, gA_sF, gA_sA, gA_uA, gA_sD, gD_sF, gD_sA, gD_uA, gD_sD, Nat.reduceEqDiff, reduceCtorEq, false_and, and_false, true_and, and_true, ite_true, ite_false, if_true, if_false, ↓reduceIte, and_self, gF_nwG, gA_nwG, gD_nwG]; omega, ?_⟩, ?_⟩
        · show (gF G 1 0 3) + 1 + cnt (owP (sF (sA (sA (sA (sA (sA (sA (sA (sA (sF (sA (sA (sA (sA (sA (sA (sA (sF (sA (sA (sA (sA (sF (sD (sF (sF ((sF (sF (sF (sF (sF (sF (sF (sF (sF ((nwG G (gF G 1 0 1))) 3 (gF G 1 0 1) 0 (gF G 1 0 1)) 3 (gF G 1 0 1) 1 (k)) 3 (gF G 1 0 1) 2 ((gA G 41 0 (c)))) 3 (gF G 1 0 1) 3 (a)) 3 (gF G 1 0 1) 4 (v)) 3 (gF G 1 0 1) 5 ((gF G 1 0 2))) 3 (gF G 1 0 1) 7 ((gF G 1 0 2))) 3 (gF G 1 0 1) 9 ((gF G 1 0 2))) 3 (gF G 1 0 1) 11 (-1))) 3 (gF G 1 0 1) 6 (g)) 3 (gF G 1 0 1) 10 (c)) 30 0 (gF G 1 0 1) (some (3, (gF G 1 0 1)))) 1 0 1 ((gF G 1 0 1) + 1)) 32 0 ((gF G 1 0 3)) (gF G 1 0 1)) 33 0 ((gF G 1 0 3)) (c)) 34 0 ((gF G 1 0 3)) ((gF G 1 0 2))) 35 0 ((gF G 1 0 3)) (-1)) 1 0 3 ((gF G 1 0 3) + 1)) 204 0 ((gF G 12 0 17)) (k)) 205 0 ((gF G 12 0 17)) ((gA G 200 0 (c)))) 208 0 ((gF G 12 0 17)) (a)) 209 0 ((gF G 12 0 17)) (v)) 210 0 ((gF G 12 0 17)) (g)) 211 0 ((gF G 12 0 17)) ((gF G 12 0 0))) 212 0 ((gF G 12 0 17)) ((gF G 12 0 0))) 12 0 17 ((gF G 12 0 17) + 1)) 206 0 ((gF G 12 0 17)) (0)) 207 0 ((gF G 12 0 17)) (c)) 213 0 ((gF G 12 0 17)) ((gF G 12 0 0))) 214 0 ((gF G 12 0 17)) (-1)) 215 0 ((gF G 12 0 22)) ((gF G 12 0 17))) 216 0 ((gF G 12 0 22)) (c)) 217 0 ((gF G 12 0 22)) ((gF G 12 0 0))) 218 0 ((gF G 12 0 22)) (-1)) 12 0 22 ((gF G 12 0 22) + 1))) ((gF G 1 0 1) + 1) ≤ 400
          rw [hcn]
          omega
        · simp only [gF_sF, gF_sA, gF_uA, gF_sD, gA_sF, gA_sA, gA_uA, gA_sD, gD_sF, gD_sA, gD_uA, gD_sD, Nat.reduceEqDiff, reduceCtorEq, false_and, and_false, true_and, and_true, ite_true, ite_false, if_true, if_false, ↓reduceIte, and_self, gF_nwG, gA_nwG, gD_nwG]
          refine all_s (fun s x y => ?_) ?_
          · have e : s ≠ (gF G 1 0 3) := by omega
            have h := iS.2 s x y
            have e5 : (gA G 32 0 (s)) ≠ (gF G 1 0 1) := by have := h.1; omega
            have h6 := h.1.2.2
            unfold stay1 at h ⊢
            simp only [gF_sF, gF_sA, gF_uA, gF_sD, gA_sF, gA_sA, gA_uA, gA_sD, gD_sF, gD_sA, gD_uA, gD_sD, Nat.reduceEqDiff, reduceCtorEq, false_and, and_false, true_and, and_true, ite_true, ite_false, if_true, if_false, ↓reduceIte, and_self, gF_nwG, gA_nwG, gD_nwG, e, es, e5]
            exact ⟨⟨h.1.1, h.1.2.1, by omega⟩, h.2⟩
          · unfold stay1
            simp only [gF_sF, gF_sA, gF_uA, gF_sD, gA_sF, gA_sA, gA_uA, gA_sD, gD_sF, gD_sA, gD_uA, gD_sD, Nat.reduceEqDiff, reduceCtorEq, false_and, and_false, true_and, and_true, ite_true, ite_false, if_true, if_false, ↓reduceIte, and_self, gF_nwG, gA_nwG, gD_nwG, es, ep, ed]
            exact ⟨by omega, by omega, Or.inl trivial⟩
      · refine ⟨iF.1, iF.2.1, iF.2.2.1, iF.2.2.2.1, iF.2.2.2.2.1, fun i x y => ?_⟩
        have h := iF.2.2.2.2.2 i x y
        exact ⟨⟨h.1.1, h.1.2.1, by have := h.1.2.2; show _ < (gF G 1 0 1) + 1; exact Int.lt_of_lt_of_le this (by omega)⟩, h.2⟩
      · refine ⟨fun s x y => ?_, iX.2⟩
        have h := iX.1 s x y
        refine ⟨h.1, fun i x1 y1 => ?_, h.2.2⟩
        have h2 := h.2.1 i x1 y1
        have e : (gA G 93 (s) (i)) ≠ (gF G 1 0 1) := by have := h2.2.2.1; omega
        refine ⟨h2.1, h2.2.1, by have := h2.2.2.1; show _ < (gF G 1 0 1) + 1; exact Int.lt_of_lt_of_le this (by omega), ?_⟩
        have h3 := h2.2.2.2
        show gF (sF (sA (sA (sA (sA (sA (sA (sA (sA (sF (sA (sA (sA (sA (sA (sA (sA (sF (sA (sA (sA (sA (sF (sD (sF (sF ((sF (sF (sF (sF (sF (sF (sF (sF (sF ((nwG G (gF G 1 0 1))) 3 (gF G 1 0 1) 0 (gF G 1 0 1)) 3 (gF G 1 0 1) 1 (k)) 3 (gF G 1 0 1) 2 ((gA G 41 0 (c)))) 3 (gF G 1 0 1) 3 (a)) 3 (gF G 1 0 1) 4 (v)) 3 (gF G 1 0 1) 5 ((gF G 1 0 2))) 3 (gF G 1 0 1) 7 ((gF G 1 0 2))) 3 (gF G 1 0 1) 9 ((gF G 1 0 2))) 3 (gF G 1 0 1) 11 (-1))) 3 (gF G 1 0 1) 6 (g)) 3 (gF G 1 0 1) 10 (c)) 30 0 (gF G 1 0 1) (some (3, (gF G 1 0 1)))) 1 0 1 ((gF G 1 0 1) + 1)) 32 0 ((gF G 1 0 3)) (gF G 1 0 1)) 33 0 ((gF G 1 0 3)) (c)) 34 0 ((gF G 1 0 3)) ((gF G 1 0 2))) 35 0 ((gF G 1 0 3)) (-1)) 1 0 3 ((gF G 1 0 3) + 1)) 204 0 ((gF G 12 0 17)) (k)) 205 0 ((gF G 12 0 17)) ((gA G 200 0 (c)))) 208 0 ((gF G 12 0 17)) (a)) 209 0 ((gF G 12 0 17)) (v)) 210 0 ((gF G 12 0 17)) (g)) 211 0 ((gF G 12 0 17)) ((gF G 12 0 0))) 212 0 ((gF G 12 0 17)) ((gF G 12 0 0))) 12 0 17 ((gF G 12 0 17) + 1)) 206 0 ((gF G 12 0 17)) (0)) 207 0 ((gF G 12 0 17)) (c)) 213 0 ((gF G 12 0 17)) ((gF G 12 0 0))) 214 0 ((gF G 12 0 17)) (-1)) 215 0 ((gF G 12 0 22)) ((gF G 12 0 17))) 216 0 ((gF G 12 0 22)) (c)) 217 0 ((gF G 12 0 22)) ((gF G 12 0 0))) 218 0 ((gF G 12 0 22)) (-1)) 12 0 22 ((gF G 12 0 22) + 1)) 3 (gA (sF (sA (sA (sA (sA (sA (sA (sA (sA (sF (sA (sA (sA (sA (sA (sA (sA (sF (sA (sA (sA (sA (sF (sD (sF (sF ((sF (sF (sF (sF (sF (sF (sF (sF (sF ((nwG G (gF G 1 0 1))) 3 (gF G 1 0 1) 0 (gF G 1 0 1)) 3 (gF G 1 0 1) 1 (k)) 3 (gF G 1 0 1) 2 ((gA G 41 0 (c)))) 3 (gF G 1 0 1) 3 (a)) 3 (gF G 1 0 1) 4 (v)) 3 (gF G 1 0 1) 5 ((gF G 1 0 2))) 3 (gF G 1 0 1) 7 ((gF G 1 0 2))) 3 (gF G 1 0 1) 9 ((gF G 1 0 2))) 3 (gF G 1 0 1) 11 (-1))) 3 (gF G 1 0 1) 6 (g)) 3 (gF G 1 0 1) 10 (c)) 30 0 (gF G 1 0 1) (some (3, (gF G 1 0 1)))) 1 0 1 ((gF G 1 0 1) + 1)) 32 0 ((gF G 1 0 3)) (gF G 1 0 1)) 33 0 ((gF G 1 0 3)) (c)) 34 0 ((gF G 1 0 3)) ((gF G 1 0 2))) 35 0 ((gF G 1 0 3)) (-1)) 1 0 3 ((gF G 1 0 3) + 1)) 204 0 ((gF G 12 0 17)) (k)) 205 0 ((gF G 12 0 17)) ((gA G 200 0 (c)))) 208 0 ((gF G 12 0 17)) (a)) 209 0 ((gF G 12 0 17)) (v)) 210 0 ((gF G 12 0 17)) (g)) 211 0 ((gF G 12 0 17)) ((gF G 12 0 0))) 212 0 ((gF G 12 0 17)) ((gF G 12 0 0))) 12 0 17 ((gF G 12 0 17) + 1)) 206 0 ((gF G 12 0 17)) (0)) 207 0 ((gF G 12 0 17)) (c)) 213 0 ((gF G 12 0 17)) ((gF G 12 0 0))) 214 0 ((gF G 12 0 17)) (-1)) 215 0 ((gF G 12 0 22)) ((gF G 12 0 17))) 216 0 ((gF G 12 0 22)) (c)) 217 0 ((gF G 12 0 22)) ((gF G 12 0 0))) 218 0 ((gF G 12 0 22)) (-1)) 12 0 22 ((gF G 12 0 22) + 1)) 93 s i) 2 = s
        simp only [gF_sF, gF_sA, gF_uA, gF_sD, gA_sF, gA_sA, gA_uA, gA_sD, gD_sF, gD_sA, gD_uA, gD_sD, Nat.reduceEqDiff, reduceCtorEq, false_and, and_false, true_and, and_true, ite_true, ite_false, if_true, if_false, ↓reduceIte, and_self, gF_nwG, gA_nwG, gD_nwG, e]
        exact h3
      · intro i x y
        replace y : i < (gF G 1 0 1) + 1 := y
        by_cases e : i = (gF G 1 0 1)
        · subst e
          unfold sideOk
          simp only [gF_sF, gF_sA, gF_uA, gF_sD, gA_sF, gA_sA, gA_uA, gA_sD, gD_sF, gD_sA, gD_uA, gD_sD, Nat.reduceEqDiff, reduceCtorEq, false_and, and_false, true_and, and_true, ite_true, ite_false, if_true, if_false, ↓reduceIte, and_self, gF_nwG, gA_nwG, gD_nwG]
          exact ⟨fun _ => trivial, fun _ _ => trivial⟩
        · have h := iJ i x (by omega)
          unfold sideOk at h ⊢
          simp only [gF_sF, gF_sA, gF_uA, gF_sD, gA_sF, gA_sA, gA_uA, gA_sD, gD_sF, gD_sA, gD_uA, gD_sD, Nat.reduceEqDiff, reduceCtorEq, false_and, and_false, true_and, and_true, ite_true, ite_false, if_true, if_false, ↓reduceIte, and_self, gF_nwG, gA_nwG, gD_nwG, e]
          exact h
