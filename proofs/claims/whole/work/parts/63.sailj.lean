set_option maxRecDepth 10000 in
theorem call_sail {l : Launch} {w : Wo} {d : Nat} {G : PH} (hI : Inv w.1.2 G G) {s f u : Int} : CallOk l w d M_X11_sail M_X12_sail [some (vR 11 (0)), some (vI (s)), some (vI (f)), some (vI (u))] [some (vR 12 (0)), some (vI (s)), some (vI (f)), some (vI (u)), none, none] G := by
  have hI0 := hI
  obtain ⟨iL, iP, iS, iF, iO, iE, iT, iR, iB, iX, iH, iG, iQ, iN, iA, iJ⟩ := hI
  have hc : 0 ≤ (gF G 2 0 2) ∧ (gF G 2 0 2) ≤ 16 := ⟨iL.1.1, iL.1.2.1⟩
  have ec : (gF G 12 0 3) = (gF G 2 0 2) := iL.1.2.2
  have mhc : 0 ≤ (gF G 12 0 3) ∧ (gF G 12 0 3) ≤ 16 := by omega
  have hr : ∀ k, 0 ≤ k → k < 324 → 0 ≤ (gA G 43 0 (k)) ∧ (gA G 43 0 (k)) ≤ 9 := fun k a b => (iL.2.2.1 k a b).2
  have mhr : ∀ k, 0 ≤ k → k < 324 → 0 ≤ (gA G 202 0 (k)) ∧ (gA G 202 0 (k)) ≤ 9 := fun k a b => by have := iL.2.2.1 k a b; omega
  have hto : 0 ≤ (gF G 7 0 2) ∧ (gF G 7 0 2) ≤ 6 := iH.1.2
  have eto : (gF G 12 0 71) = (gF G 7 0 2) := iH.1.1
  have mhto : 0 ≤ (gF G 12 0 71) ∧ (gF G 12 0 71) ≤ 6 := by omega
  have hdy : 0 ≤ (gF G 1 0 2) ∧ (gF G 1 0 2) ≤ 600 := iP.2.1.2
  have ed : (gF G 12 0 0) = (gF G 1 0 2) := iP.2.1.1
  have mhdy : 0 ≤ (gF G 12 0 0) ∧ (gF G 12 0 0) ≤ 600 := by rw [ed]; exact hdy
  have hg : ∀ i, 0 ≤ i → i < (gF G 7 0 2) → (0 ≤ (gA G 66 0 (i)) ∧ (gA G 66 0 (i)) ≤ 99) ∧ 0 ≤ (gA G 67 0 (i)) ∧ (gA G 67 0 (i)) ≤ 99 := fun i a b => ⟨(iH.2.1 i a b).2.1.2, (iH.2.1 i a b).2.2.2⟩
  have hcm : ∀ i, 0 ≤ i → i < (gF G 7 0 2) → 0 ≤ (gA G 65 0 (i)) ∧ (gA G 65 0 (i)) < (gF G 2 0 2) := fun i a b => (iH.2.1 i a b).1.2
  have eqA : ∀ i, 0 ≤ i → i < (gF G 7 0 2) → (gA G 248 0 (i)) = (gA G 65 0 (i)) ∧ (gA G 249 0 (i)) = (gA G 66 0 (i)) ∧ (gA G 250 0 (i)) = (gA G 67 0 (i)) := fun i a b => ⟨(iH.2.1 i a b).1.1, (iH.2.1 i a b).2.1.1, (iH.2.1 i a b).2.2.1⟩
  have mhg : ∀ i, 0 ≤ i → i < (gF G 12 0 71) → (0 ≤ (gA G 249 0 (i)) ∧ (gA G 249 0 (i)) ≤ 99) ∧ 0 ≤ (gA G 250 0 (i)) ∧ (gA G 250 0 (i)) ≤ 99 := fun i a b => by have h := eqA i a (by omega); rw [h.2.1, h.2.2]; exact hg i a (by omega)
  have mhcm : ∀ i, 0 ≤ i → i < (gF G 12 0 71) → 0 ≤ (gA G 248 0 (i)) ∧ (gA G 248 0 (i)) < 16 := fun i a b => by have h := eqA i a (by omega); have h2 := hcm i a (by omega); omega
  unfold CallOk CallPhi
  refine sp_X11_sail (d := d + 983) hc hr hto hg hcm hdy ?_ ?_ ?_ ?_
  · intro c1
    refine sp_X12_sail (d := d + 991) (by exact mhc) (by exact mhr) (by exact mhto) (by exact mhg) (by exact mhcm) (by exact mhdy) (fun v => absurd v c1) ?_ ?_ ?_ ?_
    · intro m1
      exact ⟨⟨rfl, _, rfl⟩, hI0⟩
    · intro m1 m2
      exact absurd m1 c1
    · intro m1 m2 i2 Dx2 R2 m3 m4 m5
      exact absurd m1 c1
    · intro m1 m2 Dx2 R2 q2 m3 m4
      exact absurd m1 c1
  · intro c1 c2
    refine sp_X12_sail (d := d + 991) (by exact mhc) (by exact mhr) (by exact mhto) (by exact mhg) (by exact mhcm) (by exact mhdy) (fun v R h y y0 y1 => by have y2 : y < (gF G 12 0 71) := y1; omega) ?_ ?_ ?_ ?_
    · intro m1
      exact absurd c1 m1
    · intro m1 m2
      exact ⟨⟨rfl, _, rfl⟩, hI0⟩
    · intro m1 m2 i2 Dx2 R2 m3 m4 m5
      replace m2 : (gF G 12 0 71) ≠ 0 := m2
      exfalso; omega
    · intro m1 m2 Dx2 R2 q2 m3 m4
      replace m2 : (gF G 12 0 71) ≠ 0 := m2
      exfalso; omega
  · intro c1 c2 i Dx fx R c3 c4 c5
    refine sp_X12_sail (d := d + 991) (by exact mhc) (by exact mhr) (by exact mhto) (by exact mhg) (by exact mhcm) (by exact mhdy) (fun v R h y y0 y1 => by
        exfalso
        replace h : (∀ y, 0 ≤ y → y < (gF G 12 0 71) → (gA G 249 0 (y)) ≤ s ∧ (gA G 250 0 (y)) ≤ f ∧ fgM G (gA G 248 0 (y)) (R y - (gF G 12 0 0))) := h
        have h9 := h i c3 (by omega)
        have h8 := eqA i c3 c4
        rcases c5 with z | z | z
        · omega
        · omega
        · exact nf_fm iL (hcm i c3 c4) h8.1 z h9.2.2) ?_ ?_ ?_ ?_
    · intro m1
      exact absurd c1 m1
    · intro m1 m2
      replace m2 : (gF G 12 0 71) = 0 := m2
      exfalso; omega
    · intro m1 m2 i2 Dx2 R2 m3 m4 m5
      exact ⟨⟨rfl, _, rfl⟩, hI0⟩
    · intro m1 m2 Dx2 R2 q2 m3 m4
      replace m3 : ∀ y, 0 ≤ y → y < (gF G 12 0 71) → (gA G 249 0 (y)) ≤ s ∧ (gA G 250 0 (y)) ≤ f ∧ fgM G (gA G 248 0 (y)) (R2 y - (gF G 12 0 0)) := m3
      exfalso
      have h9 := m3 i c3 (by omega)
      have h8 := eqA i c3 c4
      rcases c5 with z | z | z
      · omega
      · omega
      · exact nf_fm iL (hcm i c3 c4) h8.1 z h9.2.2
  · intro c1 c2 Dx fx R pe re fi q c3 c4
    refine sp_X12_sail (d := d + 991) (by exact mhc) (by exact mhr) (by exact mhto) (by exact mhg) (by exact mhcm) (by exact mhdy) (fun v R h y y0 y1 => by
        replace h : (∀ y, 0 ≤ y → y < (gF G 12 0 71) → (gA G 249 0 (y)) ≤ s ∧ (gA G 250 0 (y)) ≤ f ∧ fgM G (gA G 248 0 (y)) (R y - (gF G 12 0 0))) := h
        replace y1 : y < (gF G 12 0 71) := y1
        have h9 := h y y0 y1
        have h8 := c3 y y0 (by omega)
        have h7 := fg_eq iL (hcm y y0 (by omega)) (eqA y y0 (by omega)).1 h8.2.2 h9.2.2
        show R y ≤ 762
        omega) ?_ ?_ ?_ ?_
    · intro m1
      exact absurd c1 m1
    · intro m1 m2
      replace m2 : (gF G 12 0 71) = 0 := m2
      exfalso; omega
    · intro m1 m2 i2 Dx2 R2 m3 m4 m5
      replace m4 : i2 < (gF G 12 0 71) := m4
      replace m5 : s < (gA G 249 0 (i2)) ∨ f < (gA G 250 0 (i2)) ∨ nfM G (gA G 248 0 (i2)) := m5
      exfalso
      have h9 := c3 i2 m3 (by omega)
      have h8 := eqA i2 m3 (by omega)
      rcases m5 with z | z | z
      · omega
      · omega
      · exact fg_nm iL (hcm i2 m3 (by omega)) h8.1 h9.2.2 z
    · intro m1 m2 Dx2 R2 q2 m3 m4
      replace m3 : ∀ y, 0 ≤ y → y < (gF G 12 0 71) → (gA G 249 0 (y)) ≤ s ∧ (gA G 250 0 (y)) ≤ f ∧ fgM G (gA G 248 0 (y)) (R2 y - (gF G 12 0 0)) := m3
      replace m4 : q2 = saiN (fun x => sbI (gA G 249 0) x (gF G 12 0 71) ≤ s ∧ sbI (gA G 250 0) x (gF G 12 0 71) ≤ f) (fun x => sbI (gA G 249 0) x (gF G 12 0 71) + sbI (gA G 250 0) x (gF G 12 0 71)) (fun y x => mxI R2 x y (gF G 12 0 71)) u 7 0 (pShl 1 (gF G 12 0 71) - 1) (gF G 12 0 0) 0 (sqM G 1000000000) := m4
      have hRR : ∀ y, 0 ≤ y → y < (gF G 7 0 2) → R2 y = R y ∧ R y ≤ 762 := fun y y0 y1 => by
        have h9 := m3 y y0 (by omega)
        have h8 := c3 y y0 y1
        have h7 := fg_eq iL (hcm y y0 y1) (eqA y y0 y1).1 h8.2.2 h9.2.2
        omega
      have eS : ∀ x, sbI (gA G 249 0) x (gF G 12 0 71) = sbI (gA G 66 0) x (gF G 7 0 2) := fun x => by rw [eto]; exact sb_congr hto.1 (fun i a b => (eqA i a b).2.1)
      have eF : ∀ x, sbI (gA G 250 0) x (gF G 12 0 71) = sbI (gA G 67 0) x (gF G 7 0 2) := fun x => by rw [eto]; exact sb_congr hto.1 (fun i a b => (eqA i a b).2.2)
      have eFT : (fun x => sbI (gA G 249 0) x (gF G 12 0 71) ≤ s ∧ sbI (gA G 250 0) x (gF G 12 0 71) ≤ f) = (fun x => sbI (gA G 66 0) x (gF G 7 0 2) ≤ s ∧ sbI (gA G 67 0) x (gF G 7 0 2) ≤ f) := funext fun x => by show (_ ≤ s ∧ _ ≤ f) = (_ ≤ s ∧ _ ≤ f); rw [eS, eF]
      have ePP : (fun x => sbI (gA G 249 0) x (gF G 12 0 71) + sbI (gA G 250 0) x (gF G 12 0 71)) = (fun x => sbI (gA G 66 0) x (gF G 7 0 2) + sbI (gA G 67 0) x (gF G 7 0 2)) := funext fun x => by show _ + _ = _ + _; rw [eS, eF]
      have eDY : (fun y x => mxI R2 x y (gF G 12 0 71)) = (fun y x => mxI R x y (gF G 7 0 2)) := funext fun y => funext fun x => by show mxI R2 x y (gF G 12 0 71) = mxI R x y (gF G 7 0 2); rw [eto]; exact mx_congr hto.1 (fun i a b => (hRR i a b).1)
      rw [eFT, ePP, eDY, eto, ed] at m4
      have h64 := shl_64 hto
      have hsh := shl_in (n := (gF G 7 0 2)) (by omega)
      have hs : saR 0 q q2 := by
        rw [c4, m4]
        exact sai_sim ⟨by decide, by omega⟩ ⟨by omega, by omega⟩ ⟨fun j j0 j1 => by omega, rfl, iH.2.2.1.1, iH.2.2.1.2, fun j j0 j1 => iH.2.2.2 j j0 j1⟩
      have hlt : q.2.2.1 < 1000000000 := by
        rw [c4]
        refine sai_hit hto (fun i a b => ?_) (fun j a b => ?_) (fun y x => mx_in hto.1 (fun i a b => (hRR i a b).2)) ⟨by omega, by omega⟩ rfl ⟨by decide, by omega⟩ ⟨by omega, by omega⟩ ⟨by omega, by omega⟩ ⟨by decide, by decide⟩
        · show sbI (gA G 66 0) (pShl 1 i) (gF G 7 0 2) ≤ s ∧ sbI (gA G 67 0) (pShl 1 i) (gF G 7 0 2) ≤ f
          rw [sb_one a ⟨b, hto.2⟩, sb_one a ⟨b, hto.2⟩]
          exact ⟨(c3 i a b).1, (c3 i a b).2.1⟩
        · have h1 := sb_in (w := (gA G 66 0)) (set := j) hto.1 (fun i a b => (hg i a b).1)
          have h2 := sb_in (w := (gA G 67 0)) (set := j) hto.1 (fun i a b => (hg i a b).2)
          show 0 ≤ sbI (gA G 66 0) j (gF G 7 0 2) + sbI (gA G 67 0) j (gF G 7 0 2) ∧ sbI (gA G 66 0) j (gF G 7 0 2) + sbI (gA G 67 0) j (gF G 7 0 2) ≤ 1188
          omega
      have hul : unl q2.2.2.1 = q.2.2.1 := by rw [hs.2.1]; exact unl_ne (by omega)
      exact ⟨⟨congrArg (fun x => some (vI x)) hul, _, rfl⟩, iL, iP, iS, iF, iO, iE, iT, iR, iB, iX, ⟨⟨rfl, by show (0 : Int) ≤ 0; omega, by show (0 : Int) ≤ 6; omega⟩, fun i x y => absurd y (by show ¬ i < 0; omega), ⟨hs.2.2.1, hs.2.2.2.1.1, hs.2.2.2.1.2⟩, fun i x y => hs.2.2.2.2 i x y⟩, iG, iQ, iN, iA, iJ⟩
