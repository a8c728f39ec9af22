set_option maxRecDepth 10000 in
theorem call_bridge {l : Launch} {w : Wo} {d : Nat} {G : PH} (hI : Inv w.1.2 G G) {u : Int} : CallOk l w d M_X11_bridge M_X12_bridge [some (vR 11 (0)), some (vI (u))] [some (vR 12 (0)), some (vI (u)), none, none, none, none] G := by
  have hI0 := hI
  obtain ⟨iL, iP, iS, iF, iO, iE, iT, iR, iB, iX, iH, iG, iQ, iN, iA, iJ⟩ := hI
  have hA := iG.1 0 (by decide) (by decide)
  have hB := iG.1 1 (by decide) (by decide)
  have ew0 : (gA G 257 0 (0)) = (gA G 22 0 (0)) := hA.1.1
  have ew1 : (gA G 257 0 (1)) = (gA G 22 0 (1)) := hB.1.1
  have hz0 : 0 ≤ (gA G 22 0 (0)) ∧ (gA G 22 0 (0)) ≤ 10 := hA.1.2
  have hz1 : 0 ≤ (gA G 22 0 (1)) ∧ (gA G 22 0 (1)) ≤ 10 := hB.1.2
  have hm0 : ∀ i, 0 ≤ i → i < (gA G 22 0 (0)) → 1 ≤ (gA G 21 0 (i)) ∧ (gA G 21 0 (i)) ≤ 9 := fun i a b => (hA.2 i a b).2
  have hm1 : ∀ i, 0 ≤ i → i < (gA G 22 0 (1)) → 1 ≤ (gA G 21 (1) (i)) ∧ (gA G 21 (1) (i)) ≤ 9 := fun i a b => (hB.2 i a b).2
  have eA : ∀ i, 0 ≤ i → i < (gA G 22 0 (0)) → (gA G 256 0 (i)) = (gA G 21 0 (i)) := fun i a b => by have h := (hA.2 i a b).1; rw [show (10 * 0 + i : Int) = i by omega] at h; exact h
  have eB : ∀ i, 0 ≤ i → i < (gA G 22 0 (1)) → (gA G 256 0 (10 + i)) = (gA G 21 (1) (i)) := fun i a b => by have h := (hB.2 i a b).1; rw [show (10 * 1 + i : Int) = 10 + i by omega] at h; exact h
  have mhwk : (0 ≤ (gA G 257 0 (0)) ∧ (gA G 257 0 (0)) ≤ 10) ∧ 0 ≤ (gA G 257 0 (1)) ∧ (gA G 257 0 (1)) ≤ 10 := by omega
  have mhw0 : ∀ i, 0 ≤ i → i < (gA G 257 0 (0)) → 1 ≤ (gA G 256 0 (i)) ∧ (gA G 256 0 (i)) ≤ 9 := fun i a b => by rw [eA i a (by omega)]; exact hm0 i a (by omega)
  have mhw1 : ∀ i, 0 ≤ i → i < (gA G 257 0 (1)) → 1 ≤ (gA G 256 0 (10 + i)) ∧ (gA G 256 0 (10 + i)) ≤ 9 := fun i a b => by rw [eB i a (by omega)]; exact hm1 i a (by omega)
  have mhwa : ∀ i, 0 ≤ i → i < (gA G 257 0 (0)) → (gA G 256 0 (i)) = (gA G 21 0 (i)) := fun i a b => eA i a (by omega)
  have mhwb : ∀ i, 0 ≤ i → i < (gA G 257 0 (1)) → (gA G 256 0 (10 + i)) = (gA G 21 (1) (i)) := fun i a b => eB i a (by omega)
  unfold CallOk CallPhi
  refine sp_X11_bridge (d := d + 994) hz0 hz1 hm0 hm1 ?_ ?_ ?_ ?_
  · intro c1
    refine sp_X12_bridge (d := d + 814) (TA := (0 : Int)) (TB := (0 : Int)) (wa := gA G 21 0) (wb := gA G 21 1) (V := (fun _ _ => 0)) (by exact mhwk) (by exact mhw0) (by exact mhw1) (by exact mhwa) (by exact mhwb) (fun v => absurd v c1) ?_ ?_ ?_ ?_
    · intro m1
      exact ⟨⟨rfl, _, rfl⟩, hI0⟩
    · intro m1 m2
      exact absurd m1 c1
    · intro m1 m2 m3 fm
      exact absurd m1 c1
    · intro m1 m2 m3 L fm gm m4 m5
      exact absurd m1 c1
  · intro c1 c2
    refine sp_X12_bridge (d := d + 814) (TA := (0 : Int)) (TB := (0 : Int)) (wa := gA G 21 0) (wb := gA G 21 1) (V := (fun _ _ => 0)) (by exact mhwk) (by exact mhw0) (by exact mhw1) (by exact mhwa) (by exact mhwb) (fun v y => by exfalso; have y2 : (gA G 257 0 (0)) ≠ 0 ∧ (gA G 257 0 (1)) ≠ 0 := y; omega) ?_ ?_ ?_ ?_
    · intro m1
      exact absurd c1 m1
    · intro m1 m2
      exact ⟨⟨rfl, _, rfl⟩, hI0⟩
    · intro m1 m2 m3 fm
      replace m2 : (gA G 257 0 (0)) ≠ 0 ∧ (gA G 257 0 (1)) ≠ 0 := m2
      exfalso; omega
    · intro m1 m2 m3 L fm gm m4 m5
      replace m2 : (gA G 257 0 (0)) ≠ 0 ∧ (gA G 257 0 (1)) ≠ 0 := m2
      exfalso; omega
  · intro c1 c2 T0 T1 f0 g0 f1 g1 tb lr wk c3 c4 c5 e01 c6
    refine sp_X12_bridge (d := d + 814) (TA := T0) (TB := T1) (wa := gA G 21 0) (wb := gA G 21 1) (V := (tvF tb)) (by exact mhwk) (by exact mhw0) (by exact mhw1) (by exact mhwa) (by exact mhwb) (fun _ _ => ⟨by show RWy (gA G 257 0 (0)) _ _; rw [ew0]; exact c3, by show RWy (gA G 257 0 (1)) _ _; rw [ew1]; exact c4, c5⟩) ?_ ?_ ?_ ?_
    · intro m1
      exact absurd c1 m1
    · intro m1 m2
      replace m2 : (gA G 257 0 (0)) = 0 ∨ (gA G 257 0 (1)) = 0 := m2
      exfalso; omega
    · intro m1 m2 m3 fm
      exact ⟨⟨rfl, _, rfl⟩, iL, iP, iS, iF, iO, iE, iT, iR, iB, iX, iH, iG, iQ, iN, iA, iJ⟩
    · intro m1 m2 m3 L fm gm m4 m5
      have hb0 := bel_0 c5 ⟨c3.1, c4.1⟩
      have e00 : tvF tb 0 0 = tb 0 := rfl
      exfalso; omega
  · intro c1 c2 T0 T1 f0 g0 f1 g1 tb lr wk c3 c4 c5 e01 c6 st c7
    refine sp_X12_bridge (d := d + 814) (TA := T0) (TB := T1) (wa := gA G 21 0) (wb := gA G 21 1) (V := (tvF tb)) (by exact mhwk) (by exact mhw0) (by exact mhw1) (by exact mhwa) (by exact mhwb) (fun _ _ => ⟨by show RWy (gA G 257 0 (0)) _ _; rw [ew0]; exact c3, by show RWy (gA G 257 0 (1)) _ _; rw [ew1]; exact c4, c5⟩) ?_ ?_ ?_ ?_
    · intro m1
      exact absurd c1 m1
    · intro m1 m2
      replace m2 : (gA G 257 0 (0)) = 0 ∨ (gA G 257 0 (1)) = 0 := m2
      exfalso; omega
    · intro m1 m2 m3 fm
      have hb0 := bel_0 c5 ⟨c3.1, c4.1⟩
      have e00 : tvF tb 0 0 = tb 0 := rfl
      exfalso; omega
    · intro m1 m2 m3 L fm gm m4 m5
      have hb0 := bel_0 c5 ⟨c3.1, c4.1⟩
      have e00 : tvF tb 0 0 = tb 0 := rfl
      have eL : L = lr 0 := m4.trans (e00.trans e01.symm)
      refine ⟨⟨congrArg (fun x => some (vI x)) eL, _, rfl⟩, iL, iP, iS, iF, iO, iE, iT, iR, iB, iX, iH, ⟨fun r x y => ?_, ⟨?_, ?_, ?_⟩, fun m x y => ?_⟩, iQ, iN, iA, iJ⟩
      · have er : r = 0 ∨ r = 1 := by omega
        rcases er with z | z <;> subst z
        · exact ⟨⟨rfl, by show (0 : Int) ≤ 0; decide, by show (0 : Int) ≤ 10; decide⟩, fun i p q => absurd q (by show ¬ i < 0; omega)⟩
        · exact ⟨⟨rfl, by show (0 : Int) ≤ 0; decide, by show (0 : Int) ≤ 10; decide⟩, fun i p q => absurd q (by show ¬ i < 0; omega)⟩
      · exact eL
      · show 0 ≤ lr 0
        omega
      · show lr 0 ≤ 180
        omega
      · replace y : m < lr 0 := y
        show gm m = st m
        rw [m5 m x (by omega), c7 m x y]
