theorem force_eq {X Y : PH} (iT : IText X Y) {u t k : Int} : lastOf (fun i => ((gA Y 231 0 (i)) = u ∧ (gA Y 232 0 (i)) ≤ k ∧ (gA Y 233 0 (i)) ≤ t)) (fun i => i) (-1) (gF Y 12 0 42) = lastOf (fun i => ((gA X 80 0 (i)) = u ∧ (gA X 81 0 (i)) ≤ k ∧ (gA X 82 0 (i)) ≤ t)) (fun i => i) (-1) (gF X 8 0 0) := by
  rw [iT.1.1]
  refine last_congr iT.1.2.1 (fun i a b => ?_) (fun i a b _ => rfl)
  have h := iT.2 i a b
  rw [h.2.1, h.2.2.1, h.2.2.2.1]
theorem could_eq {np : Nat} {q : Int} {X Y : PH} (iP : IPers np q X Y) (iS : IStay X Y) (iQ : ISought X Y) (p : Int) : (∀ x, 0 ≤ x → x < (gF Y 12 0 22) → ∀ y, 0 ≤ y → y < (gF Y 12 0 91) → ((gA Y 215 0 (x)) = p → ((gA Y 217 0 (x)) ≤ (gA Y 262 0 (y)) ∧ (gA Y 217 0 (x)) ≤ (gF Y 12 0 0) ∧ (gA Y 261 0 (y)) ≤ (gA Y 262 0 (y)) ∧ (gA Y 261 0 (y)) ≤ (gF Y 12 0 0) ∧ ((gA Y 218 0 (x)) < 0 ∨ (0 ≤ (gA Y 218 0 (x)) ∧ (gA Y 217 0 (x)) ≤ (gA Y 218 0 (x)) ∧ (gA Y 261 0 (y)) ≤ (gA Y 218 0 (x))))) → (gA Y 216 0 (x)) = (gA Y 260 0 (y)))) ↔ (∀ x, 0 ≤ x → x < (gF X 1 0 3) → ∀ y, 0 ≤ y → y < (gF X 1 0 13) → ((gA X 32 0 (x)) = p → ((gA X 34 0 (x)) ≤ (gA X 38 0 (y)) ∧ (gA X 37 0 (y)) ≤ (gA X 38 0 (y)) ∧ (((gA X 35 0 (x)) = -1 ∧ (gA X 34 0 (x)) ≤ (gF X 1 0 2) ∧ (gA X 37 0 (y)) ≤ (gF X 1 0 2)) ∨ ((gA X 35 0 (x)) ≠ -1 ∧ (gA X 34 0 (x)) ≤ (gA X 35 0 (x)) ∧ (gA X 37 0 (y)) ≤ (gA X 35 0 (x))))) → (gA X 33 0 (x)) = (gA X 36 0 (y)))) := by
  have hc : ∀ x, 0 ≤ x → x < (gF X 1 0 3) → ∀ y, 0 ≤ y → y < (gF X 1 0 13) → (((gA Y 215 0 (x)) = p → ((gA Y 217 0 (x)) ≤ (gA Y 262 0 (y)) ∧ (gA Y 217 0 (x)) ≤ (gF Y 12 0 0) ∧ (gA Y 261 0 (y)) ≤ (gA Y 262 0 (y)) ∧ (gA Y 261 0 (y)) ≤ (gF Y 12 0 0) ∧ ((gA Y 218 0 (x)) < 0 ∨ (0 ≤ (gA Y 218 0 (x)) ∧ (gA Y 217 0 (x)) ≤ (gA Y 218 0 (x)) ∧ (gA Y 261 0 (y)) ≤ (gA Y 218 0 (x))))) → (gA Y 216 0 (x)) = (gA Y 260 0 (y))) ↔ ((gA X 32 0 (x)) = p → ((gA X 34 0 (x)) ≤ (gA X 38 0 (y)) ∧ (gA X 37 0 (y)) ≤ (gA X 38 0 (y)) ∧ (((gA X 35 0 (x)) = -1 ∧ (gA X 34 0 (x)) ≤ (gF X 1 0 2) ∧ (gA X 37 0 (y)) ≤ (gF X 1 0 2)) ∨ ((gA X 35 0 (x)) ≠ -1 ∧ (gA X 34 0 (x)) ≤ (gA X 35 0 (x)) ∧ (gA X 37 0 (y)) ≤ (gA X 35 0 (x))))) → (gA X 33 0 (x)) = (gA X 36 0 (y)))) := fun x a b y c d => by
    obtain ⟨⟨h1, h2, h3⟩, h4, ⟨h5, h6, h7⟩, h8, h9⟩ := iS.2 x a b
    obtain ⟨g1, g2, g3⟩ := iQ.2.1 y c d
    have ed := iP.2.1.1
    rw [h1, h4, h5, h8, g1, g2, g3, ed]
    by_cases e : (gA X 35 0 (x)) = -1 <;> constructor <;> intro f e1 e2 <;> exact f e1 (by omega)
  rw [iS.1.1, iQ.1.1]
  exact ⟨fun h x a b y c d => (hc x a b y c d).mp (h x a b y c d), fun h x a b y c d => (hc x a b y c d).mpr (h x a b y c d)⟩




set_option maxRecDepth 10000 in
theorem call_feed {l : Launch} {w : Wo} {d : Nat} {G : PH} (hI : Inv w.1.2 G G) {n : Int} {v : Int} : CallOk l w d M_X11_feed M_X12_feed [some (vR 11 (0)), some (vI (n)), some (vI (v))] [some (vR 12 (0)), some (vI (n)), some (vI (v)), none] G := by
  obtain ⟨iL, iP, iS, iF, iO, iE, iT, iR, iB, iX, iH, iG, iQ, iN, iA, iJ⟩ := hI
  have htp : 0 ≤ (gF G 8 0 1) ∧ (gF G 8 0 1) ≤ 160 := iE.1.2
  have et : (gF G 12 0 36) = (gF G 8 0 1) := iE.1.1
  have mhtp : 0 ≤ (gF G 12 0 36) ∧ (gF G 12 0 36) ≤ 160 := by omega
  have htx : 0 ≤ (gF G 8 0 0) ∧ (gF G 8 0 0) ≤ 20 := iT.1.2
  have etx : (gF G 12 0 42) = (gF G 8 0 0) := iT.1.1
  have mhtx : 0 ≤ (gF G 12 0 42) ∧ (gF G 12 0 42) ≤ 20 := by omega
  unfold CallOk CallPhi
  refine sp_X11_feed (d := d + 998) (by first | assumption | exact htp | omega) ?_ ?_ ?_
  · intro c1
    refine sp_X12_feed (d := d + 999) (by first | assumption | exact mhtp | omega) ?_ ?_ ?_
    · intro m1
      replace m1 : ¬ (1 ≤ n ∧ n ≤ 4) := m1
      exact ⟨⟨rfl, _, rfl⟩, iL, iP, iS, iF, iO, iE, iT, iR, iB, iX, iH, iG, iQ, iN, iA, iJ⟩
    · intro m1 m2
      replace m1 : (1 ≤ n ∧ n ≤ 4) := m1
      replace m2 : (160 < (gF G 12 (0) 36) + n) := m2
      exfalso; omega
    · intro m1 m2
      replace m1 : (1 ≤ n ∧ n ≤ 4) := m1
      replace m2 : ((gF G 12 (0) 36) + n ≤ 160) := m2
      exfalso; omega
  · intro c1 c2
    refine sp_X12_feed (d := d + 999) (by first | assumption | exact mhtp | omega) ?_ ?_ ?_
    · intro m1
      replace m1 : ¬ (1 ≤ n ∧ n ≤ 4) := m1
      exfalso; omega
    · intro m1 m2
      replace m1 : (1 ≤ n ∧ n ≤ 4) := m1
      replace m2 : (160 < (gF G 12 (0) 36) + n) := m2
      exact ⟨⟨rfl, _, rfl⟩, iL, iP, iS, iF, iO, iE, iT, iR, iB, iX, iH, iG, iQ, iN, iA, iJ⟩
    · intro m1 m2
      replace m1 : (1 ≤ n ∧ n ≤ 4) := m1
      replace m2 : ((gF G 12 (0) 36) + n ≤ 160) := m2
      exfalso; omega
  · intro c1 c2
    refine sp_X12_feed (d := d + 999) (by first | assumption | exact mhtp | omega) ?_ ?_ ?_
    · intro m1
      replace m1 : ¬ (1 ≤ n ∧ n ≤ 4) := m1
      exfalso; omega
    · intro m1 m2
      replace m1 : (1 ≤ n ∧ n ≤ 4) := m1
      replace m2 : (160 < (gF G 12 (0) 36) + n) := m2
      exfalso; omega
    · intro m1 m2
      replace m1 : (1 ≤ n ∧ n ≤ 4) := m1
      replace m2 : ((gF G 12 (0) 36) + n ≤ 160) := m2
      show (some (vI ((gF G 12 (0) 36) + n)) = some (vI ((gF G 8 0 1) + n)) ∧ ∃ vz, some (vI ((gF G 8 0 1) + n)) = some (vI vz)) ∧ Inv w.1.2 (sF (uA (sF (uA G 76 (0) (filF (fun j0 => (gF G 8 0 1) ≤ j0) (fun j0 => b8 (pShr v (8 * (j0 - (gF G 8 0 1))))) (gA G 76 0) ((gF G 8 0 1) + n))) 8 (0) 1 ((gF G 8 0 1) + n)) 228 (0) (filF (fun j0 => (gF G 12 (0) 36) ≤ j0) (fun j0 => pAnd (pShr v (8 * (j0 - (gF G 12 (0) 36)))) 255) (gA G 228 0) ((gF G 12 (0) 36) + n))) 12 (0) 36 ((gF G 12 (0) 36) + n)) (sF (uA (sF (uA G 76 (0) (filF (fun j0 => (gF G 8 0 1) ≤ j0) (fun j0 => b8 (pShr v (8 * (j0 - (gF G 8 0 1))))) (gA G 76 0) ((gF G 8 0 1) + n))) 8 (0) 1 ((gF G 8 0 1) + n)) 228 (0) (filF (fun j0 => (gF G 12 (0) 36) ≤ j0) (fun j0 => pAnd (pShr v (8 * (j0 - (gF G 12 (0) 36)))) 255) (gA G 228 0) ((gF G 12 (0) 36) + n))) 12 (0) 36 ((gF G 12 (0) 36) + n))
      refine ⟨⟨by rw [et], _, rfl⟩, iL, iP, iS, iF, iO, ?_, iT, iR, iB, iX, iH, iG, iQ, iN, iA, iJ⟩
      refine ⟨by simp only [gF_sF, gF_sA, gF_uA, gF_sD, gA_sF, gA_sA, gA_uA, gA_sD, gD_sF, gD_sA, gD_uA, gD_sD, Nat.reduceEqDiff, reduceCtorEq, false_and, and_false, true_and, and_true, ite_true, ite_false, if_true, if_false, ↓reduceIte, and_self]; omega, fun j a b => ?_⟩
      replace b : j < (gF G 8 0 1) + n := b
      simp only [gF_sF, gF_sA, gF_uA, gF_sD, gA_sF, gA_sA, gA_uA, gA_sD, gD_sF, gD_sA, gD_uA, gD_sD, Nat.reduceEqDiff, reduceCtorEq, false_and, and_false, true_and, and_true, ite_true, ite_false, if_true, if_false, ↓reduceIte, and_self]
      by_cases e : j < (gF G 8 0 1)
      · rw [fil_f (q := (fun j0 => (gF G 8 0 1) ≤ j0)) (fun z => by omega), fil_f (q := (fun j0 => (gF G 12 0 36) ≤ j0)) (fun z => by omega)]
        exact iE.2 j a e
      · rw [fil_t (q := (fun j0 => (gF G 8 0 1) ≤ j0)) a (by omega) (by omega), fil_t (q := (fun j0 => (gF G 12 0 36) ≤ j0)) a (by omega) (by omega), b8_255, et]
        exact ⟨rfl, (pAnd_255_in _).1, (pAnd_255_in _).2, by have h9 := b8_in (pShr v (8 * (j - (gF G 8 0 1)))); omega⟩
set_option maxRecDepth 10000 in
theorem call_inForce {l : Launch} {w : Wo} {d : Nat} {G : PH} (hI : Inv w.1.2 G G) {u : Int} {t : Int} {k : Int} : CallOk l w d M_X11_inForce M_X12_inForce [some (vR 11 (0)), some (vI (u)), some (vI (t)), some (vI (k))] [some (vR 12 (0)), some (vI (u)), some (vI (t)), some (vI (k)), none] G := by
  obtain ⟨iL, iP, iS, iF, iO, iE, iT, iR, iB, iX, iH, iG, iQ, iN, iA, iJ⟩ := hI
  have htp : 0 ≤ (gF G 8 0 1) ∧ (gF G 8 0 1) ≤ 160 := iE.1.2
  have et : (gF G 12 0 36) = (gF G 8 0 1) := iE.1.1
  have mhtp : 0 ≤ (gF G 12 0 36) ∧ (gF G 12 0 36) ≤ 160 := by omega
  have htx : 0 ≤ (gF G 8 0 0) ∧ (gF G 8 0 0) ≤ 20 := iT.1.2
  have etx : (gF G 12 0 42) = (gF G 8 0 0) := iT.1.1
  have mhtx : 0 ≤ (gF G 12 0 42) ∧ (gF G 12 0 42) ≤ 20 := by omega
  unfold CallOk CallPhi
  refine sp_X11_inForce (d := d + 997) (by first | assumption | exact htx | omega) ?_ ?_
  · intro c1
    refine sp_X12_inForce (d := d + 998) (by first | assumption | exact mhtx | omega) ?_ ?_
    · intro m1
      replace m1 : ¬ (((0 ≤ u ∧ u ≤ 39) ∧ u % 10 ≤ 2) ∧ (0 ≤ t ∧ t ≤ 600) ∧ 0 ≤ k ∧ k ≤ 600) := m1
      exact ⟨⟨rfl, _, rfl⟩, iL, iP, iS, iF, iO, iE, iT, iR, iB, iX, iH, iG, iQ, iN, iA, iJ⟩
    · intro m1 r2 m2 v2 m3
      replace m1 : (((0 ≤ u ∧ u ≤ 39) ∧ u % 10 ≤ 2) ∧ (0 ≤ t ∧ t ≤ 600) ∧ 0 ≤ k ∧ k ≤ 600) := m1
      replace m2 : r2 = lastOf (fun i => ((gA G 231 (0) (i)) = u ∧ (gA G 232 (0) (i)) ≤ k ∧ (gA G 233 (0) (i)) ≤ t)) (fun i => i) (-1) (gF G 12 (0) 42) := m2
      replace m3 : (r2 < 0 ∧ v2 = -4) ∨ (0 ≤ r2 ∧ v2 = r2) := m3
      exfalso; omega
  · intro c1 r c2 v c3
    refine sp_X12_inForce (d := d + 998) (by first | assumption | exact mhtx | omega) ?_ ?_
    · intro m1
      replace m1 : ¬ (((0 ≤ u ∧ u ≤ 39) ∧ u % 10 ≤ 2) ∧ (0 ≤ t ∧ t ≤ 600) ∧ 0 ≤ k ∧ k ≤ 600) := m1
      exfalso; omega
    · intro m1 r2 m2 v2 m3
      replace m1 : (((0 ≤ u ∧ u ≤ 39) ∧ u % 10 ≤ 2) ∧ (0 ≤ t ∧ t ≤ 600) ∧ 0 ≤ k ∧ k ≤ 600) := m1
      replace m2 : r2 = lastOf (fun i => ((gA G 231 (0) (i)) = u ∧ (gA G 232 (0) (i)) ≤ k ∧ (gA G 233 (0) (i)) ≤ t)) (fun i => i) (-1) (gF G 12 (0) 42) := m2
      replace m3 : (r2 < 0 ∧ v2 = -4) ∨ (0 ≤ r2 ∧ v2 = r2) := m3
      show (some (vI v2) = some (vI v) ∧ ∃ vz, some (vI v) = some (vI vz)) ∧ Inv w.1.2 G G
      have e := force_eq iT (u := u) (t := t) (k := k)
      have ev : v2 = v := by omega
      subst ev
      refine ⟨⟨rfl, _, rfl⟩, iL, iP, iS, iF, iO, iE, iT, iR, iB, iX, iH, iG, iQ, iN, iA, iJ⟩
set_option maxRecDepth 10000 in
theorem call_table {l : Launch} {w : Wo} {d : Nat} {G : PH} (hI : Inv w.1.2 G G) {t : Int} {s : Int} {n : Int} : CallOk l w d M_X11_table M_X12_table [some (vR 11 (0)), some (vI (t)), some (vI (s)), some (vI (n))] [some (vR 12 (0)), some (vI (t)), some (vI (s)), some (vI (n)), none] G := by
  obtain ⟨iL, iP, iS, iF, iO, iE, iT, iR, iB, iX, iH, iG, iQ, iN, iA, iJ⟩ := hI
  unfold CallOk CallPhi
  refine sp_X11_table (d := d + 997)  ?_ ?_
  · intro c1
    refine sp_X12_table (d := d + 998)  ?_ ?_
    · intro m1
      replace m1 : ¬ ((0 ≤ t ∧ t ≤ 3) ∧ (-1 ≤ s ∧ s ≤ 1) ∧ (s = -1 ∨ (0 ≤ n ∧ n ≤ 60))) := m1
      exact ⟨⟨rfl, _, rfl⟩, iL, iP, iS, iF, iO, iE, iT, iR, iB, iX, iH, iG, iQ, iN, iA, iJ⟩
    · intro m1 n2 m2
      replace m1 : ((0 ≤ t ∧ t ≤ 3) ∧ (-1 ≤ s ∧ s ≤ 1) ∧ (s = -1 ∨ (0 ≤ n ∧ n ≤ 60))) := m1
      replace m2 : ((s = -1 ∧ n2 = 0) ∨ (s ≠ -1 ∧ n2 = n)) := m2
      exfalso; omega
  · intro c1 nn c2
    refine sp_X12_table (d := d + 998)  ?_ ?_
    · intro m1
      replace m1 : ¬ ((0 ≤ t ∧ t ≤ 3) ∧ (-1 ≤ s ∧ s ≤ 1) ∧ (s = -1 ∨ (0 ≤ n ∧ n ≤ 60))) := m1
      exfalso; omega
    · intro m1 n2 m2
      replace m1 : ((0 ≤ t ∧ t ≤ 3) ∧ (-1 ≤ s ∧ s ≤ 1) ∧ (s = -1 ∨ (0 ≤ n ∧ n ≤ 60))) := m1
      replace m2 : ((s = -1 ∧ n2 = 0) ∨ (s ≠ -1 ∧ n2 = n)) := m2
      show (some (vI 1) = some (vI 1) ∧ ∃ vz, some (vI 1) = some (vI vz)) ∧ Inv w.1.2 (uA (sA (sA (uA (sA (sA G 58 (0) (t) (s)) 59 (0) (t) (nn)) 57 (t) (filF (fun _ => True) (fun _ => 0) (gA G 57 t) (60))) 270 (0) (t) (s)) 271 (0) (t) (n2)) 272 (0) (filF (fun j0 => 60 * t ≤ j0) (fun _ => 0) (gA G 272 0) (60 * t + 60))) (uA (sA (sA (uA (sA (sA G 58 (0) (t) (s)) 59 (0) (t) (nn)) 57 (t) (filF (fun _ => True) (fun _ => 0) (gA G 57 t) (60))) 270 (0) (t) (s)) 271 (0) (t) (n2)) 272 (0) (filF (fun j0 => 60 * t ≤ j0) (fun _ => 0) (gA G 272 0) (60 * t + 60)))
      have ev : n2 = nn := by omega
      subst ev
      refine ⟨⟨rfl, _, rfl⟩, iL, iP, iS, iF, iO, iE, iT, iR, ?_, iX, iH, iG, iQ, iN, iA, iJ⟩
      refine ⟨iB.1, fun t1 a b => ?_⟩
      have h := iB.2 t1 a b
      by_cases e : t1 = t
      · subst e
        refine ⟨?_, ?_, fun i x y => ?_⟩
        · simp only [gF_sF, gF_sA, gF_uA, gF_sD, gA_sF, gA_sA, gA_uA, gA_sD, gD_sF, gD_sA, gD_uA, gD_sD, Nat.reduceEqDiff, reduceCtorEq, false_and, and_false, true_and, and_true, ite_true, ite_false, if_true, if_false, ↓reduceIte, and_self]; omega
        · simp only [gF_sF, gF_sA, gF_uA, gF_sD, gA_sF, gA_sA, gA_uA, gA_sD, gD_sF, gD_sA, gD_uA, gD_sD, Nat.reduceEqDiff, reduceCtorEq, false_and, and_false, true_and, and_true, ite_true, ite_false, if_true, if_false, ↓reduceIte, and_self]; omega
        · simp only [gF_sF, gF_sA, gF_uA, gF_sD, gA_sF, gA_sA, gA_uA, gA_sD, gD_sF, gD_sA, gD_uA, gD_sD, Nat.reduceEqDiff, reduceCtorEq, false_and, and_false, true_and, and_true, ite_true, ite_false, if_true, if_false, ↓reduceIte, and_self]
          rw [fil_t (q := fun _ => True) x y trivial, fil_t (q := fun j0 => 60 * t1 ≤ j0) (by omega) (by omega) (by omega)]
          decide
      · refine ⟨?_, ?_, fun i x y => ?_⟩
        · simp only [gF_sF, gF_sA, gF_uA, gF_sD, gA_sF, gA_sA, gA_uA, gA_sD, gD_sF, gD_sA, gD_uA, gD_sD, Nat.reduceEqDiff, reduceCtorEq, false_and, and_false, true_and, and_true, ite_true, ite_false, if_true, if_false, ↓reduceIte, and_self, e]; exact h.1
        · simp only [gF_sF, gF_sA, gF_uA, gF_sD, gA_sF, gA_sA, gA_uA, gA_sD, gD_sF, gD_sA, gD_uA, gD_sD, Nat.reduceEqDiff, reduceCtorEq, false_and, and_false, true_and, and_true, ite_true, ite_false, if_true, if_false, ↓reduceIte, and_self, e]; exact h.2.1
        · simp only [gF_sF, gF_sA, gF_uA, gF_sD, gA_sF, gA_sA, gA_uA, gA_sD, gD_sF, gD_sA, gD_uA, gD_sD, Nat.reduceEqDiff, reduceCtorEq, false_and, and_false, true_and, and_true, ite_true, ite_false, if_true, if_false, ↓reduceIte, and_self, e]
          rw [fil_f (q := fun j0 => 60 * t ≤ j0) (fun z => by omega)]
          exact h.2.2 i x y
set_option maxRecDepth 10000 in
theorem call_item {l : Launch} {w : Wo} {d : Nat} {G : PH} (hI : Inv w.1.2 G G) {t : Int} {i : Int} {v : Int} : CallOk l w d M_X11_item M_X12_item [some (vR 11 (0)), some (vI (t)), some (vI (i)), some (vI (v))] [some (vR 12 (0)), some (vI (t)), some (vI (i)), some (vI (v))] G := by
  obtain ⟨iL, iP, iS, iF, iO, iE, iT, iR, iB, iX, iH, iG, iQ, iN, iA, iJ⟩ := hI
  have hts : ∀ t, 0 ≤ t → t < 4 → (-1 ≤ (gA G 58 0 (t)) ∧ (gA G 58 0 (t)) ≤ 1) ∧ 0 ≤ (gA G 59 0 (t)) ∧ (gA G 59 0 (t)) ≤ 60 := fun t a b => by have := iB.2 t a b; omega
  have mhts : ∀ t, 0 ≤ t → t < 4 → (-1 ≤ (gA G 270 0 (t)) ∧ (gA G 270 0 (t)) ≤ 1) ∧ 0 ≤ (gA G 271 0 (t)) ∧ (gA G 271 0 (t)) ≤ 60 := fun t a b => by have := iB.2 t a b; omega
  have htt : (0 ≤ t ∧ t ≤ 3) → (gA G 270 0 (t)) = (gA G 58 0 (t)) ∧ (gA G 271 0 (t)) = (gA G 59 0 (t)) ∧ 0 ≤ (gA G 59 0 (t)) ∧ (gA G 59 0 (t)) ≤ 60 := fun h => by have := iB.2 t h.1 (by omega); omega
  unfold CallOk CallPhi
  refine sp_X11_item (d := d + 997) (by first | assumption | exact hts | omega) ?_ ?_ ?_ ?_
  · intro c1
    refine sp_X12_item (d := d + 998) (by first | assumption | exact mhts | omega) ?_ ?_ ?_ ?_
    · intro m1
      replace m1 : ¬ (0 ≤ t ∧ t ≤ 3) := m1
      exact ⟨⟨rfl, _, rfl⟩, iL, iP, iS, iF, iO, iE, iT, iR, iB, iX, iH, iG, iQ, iN, iA, iJ⟩
    · intro m1 m2
      replace m1 : (0 ≤ t ∧ t ≤ 3) := m1
      replace m2 : ((gA G 270 (0) (t)) = -1) := m2
      exfalso; omega
    · intro m1 m2 m3
      replace m1 : (0 ≤ t ∧ t ≤ 3) := m1
      replace m2 : ((gA G 270 (0) (t)) ≠ -1) := m2
      replace m3 : (¬ (0 ≤ i ∧ i < (gA G 271 (0) (t)))) := m3
      exfalso; omega
    · intro m1 m2 m3 y2 m4
      replace m1 : (0 ≤ t ∧ t ≤ 3) := m1
      replace m2 : ((gA G 270 (0) (t)) ≠ -1) := m2
      replace m3 : (0 ≤ i ∧ i < (gA G 271 (0) (t))) := m3
      replace m4 : ((gA G 270 (0) (t)) = 0 ∧ y2 = b8 v) ∨ ((gA G 270 (0) (t)) ≠ 0 ∧ y2 = b16 v) := m4
      exfalso; omega
  · intro c1 c2
    refine sp_X12_item (d := d + 998) (by first | assumption | exact mhts | omega) ?_ ?_ ?_ ?_
    · intro m1
      replace m1 : ¬ (0 ≤ t ∧ t ≤ 3) := m1
      exfalso; omega
    · intro m1 m2
      replace m1 : (0 ≤ t ∧ t ≤ 3) := m1
      replace m2 : ((gA G 270 (0) (t)) = -1) := m2
      exact ⟨⟨rfl, _, rfl⟩, iL, iP, iS, iF, iO, iE, iT, iR, iB, iX, iH, iG, iQ, iN, iA, iJ⟩
    · intro m1 m2 m3
      replace m1 : (0 ≤ t ∧ t ≤ 3) := m1
      replace m2 : ((gA G 270 (0) (t)) ≠ -1) := m2
      replace m3 : (¬ (0 ≤ i ∧ i < (gA G 271 (0) (t)))) := m3
      exfalso; omega
    · intro m1 m2 m3 y2 m4
      replace m1 : (0 ≤ t ∧ t ≤ 3) := m1
      replace m2 : ((gA G 270 (0) (t)) ≠ -1) := m2
      replace m3 : (0 ≤ i ∧ i < (gA G 271 (0) (t))) := m3
      replace m4 : ((gA G 270 (0) (t)) = 0 ∧ y2 = b8 v) ∨ ((gA G 270 (0) (t)) ≠ 0 ∧ y2 = b16 v) := m4
      exfalso; omega
  · intro c1 c2 c3
    refine sp_X12_item (d := d + 998) (by first | assumption | exact mhts | omega) ?_ ?_ ?_ ?_
    · intro m1
      replace m1 : ¬ (0 ≤ t ∧ t ≤ 3) := m1
      exfalso; omega
    · intro m1 m2
      replace m1 : (0 ≤ t ∧ t ≤ 3) := m1
      replace m2 : ((gA G 270 (0) (t)) = -1) := m2
      exfalso; omega
    · intro m1 m2 m3
      replace m1 : (0 ≤ t ∧ t ≤ 3) := m1
      replace m2 : ((gA G 270 (0) (t)) ≠ -1) := m2
      replace m3 : (¬ (0 ≤ i ∧ i < (gA G 271 (0) (t)))) := m3
      exact ⟨⟨rfl, _, rfl⟩, iL, iP, iS, iF, iO, iE, iT, iR, iB, iX, iH, iG, iQ, iN, iA, iJ⟩
    · intro m1 m2 m3 y2 m4
      replace m1 : (0 ≤ t ∧ t ≤ 3) := m1
      replace m2 : ((gA G 270 (0) (t)) ≠ -1) := m2
      replace m3 : (0 ≤ i ∧ i < (gA G 271 (0) (t))) := m3
      replace m4 : ((gA G 270 (0) (t)) = 0 ∧ y2 = b8 v) ∨ ((gA G 270 (0) (t)) ≠ 0 ∧ y2 = b16 v) := m4
      exfalso; omega
  · intro c1 c2 c3 y c4
    refine sp_X12_item (d := d + 998) (by first | assumption | exact mhts | omega) ?_ ?_ ?_ ?_
    · intro m1
      replace m1 : ¬ (0 ≤ t ∧ t ≤ 3) := m1
      exfalso; omega
    · intro m1 m2
      replace m1 : (0 ≤ t ∧ t ≤ 3) := m1
      replace m2 : ((gA G 270 (0) (t)) = -1) := m2
      exfalso; omega
    · intro m1 m2 m3
      replace m1 : (0 ≤ t ∧ t ≤ 3) := m1
      replace m2 : ((gA G 270 (0) (t)) ≠ -1) := m2
      replace m3 : (¬ (0 ≤ i ∧ i < (gA G 271 (0) (t)))) := m3
      exfalso; omega
    · intro m1 m2 m3 y2 m4
      replace m1 : (0 ≤ t ∧ t ≤ 3) := m1
      replace m2 : ((gA G 270 (0) (t)) ≠ -1) := m2
      replace m3 : (0 ≤ i ∧ i < (gA G 271 (0) (t))) := m3
      replace m4 : ((gA G 270 (0) (t)) = 0 ∧ y2 = b8 v) ∨ ((gA G 270 (0) (t)) ≠ 0 ∧ y2 = b16 v) := m4
      show (some (vI 1) = some (vI 1) ∧ ∃ vz, some (vI 1) = some (vI vz)) ∧ Inv w.1.2 (sA (sA G 57 (t) (i) (y)) 272 (0) (60 * t + i) (y2)) (sA (sA G 57 (t) (i) (y)) 272 (0) (60 * t + i) (y2))
      have ev : y2 = y := by omega
      subst ev
      have hy : -32768 ≤ y2 ∧ y2 ≤ 32767 := by have := b8_in v; have := b16_in v; omega
      refine ⟨⟨rfl, _, rfl⟩, iL, iP, iS, iF, iO, iE, iT, iR, ?_, iX, iH, iG, iQ, iN, iA, iJ⟩
      refine ⟨iB.1, fun t1 a b => ?_⟩
      have h := iB.2 t1 a b
      refine ⟨h.1, h.2.1, fun i1 x y => ?_⟩
      have h3 := h.2.2 i1 x y
      by_cases e : t1 = t ∧ i1 = i
      · rw [e.1, e.2]
        simp only [gF_sF, gF_sA, gF_uA, gF_sD, gA_sF, gA_sA, gA_uA, gA_sD, gD_sF, gD_sA, gD_uA, gD_sD, Nat.reduceEqDiff, reduceCtorEq, false_and, and_false, true_and, and_true, ite_true, ite_false, if_true, if_false, ↓reduceIte, and_self]
        omega
      · simp only [gF_sF, gF_sA, gF_uA, gF_sD, gA_sF, gA_sA, gA_uA, gA_sD, gD_sF, gD_sA, gD_uA, gD_sD, Nat.reduceEqDiff, reduceCtorEq, false_and, and_false, true_and, and_true, ite_true, ite_false, if_true, if_false, ↓reduceIte, and_self]
        rw [if_neg e, if_neg (by omega)]
        exact h3
set_option maxRecDepth 10000 in
theorem call_read {l : Launch} {w : Wo} {d : Nat} {G : PH} (hI : Inv w.1.2 G G) {t : Int} {i : Int} : CallOk l w d M_X11_read M_X12_read [some (vR 11 (0)), some (vI (t)), some (vI (i))] [some (vR 12 (0)), some (vI (t)), some (vI (i))] G := by
  obtain ⟨iL, iP, iS, iF, iO, iE, iT, iR, iB, iX, iH, iG, iQ, iN, iA, iJ⟩ := hI
  have hts : ∀ t, 0 ≤ t → t < 4 → (-1 ≤ (gA G 58 0 (t)) ∧ (gA G 58 0 (t)) ≤ 1) ∧ 0 ≤ (gA G 59 0 (t)) ∧ (gA G 59 0 (t)) ≤ 60 := fun t a b => by have := iB.2 t a b; omega
  have mhts : ∀ t, 0 ≤ t → t < 4 → (-1 ≤ (gA G 270 0 (t)) ∧ (gA G 270 0 (t)) ≤ 1) ∧ 0 ≤ (gA G 271 0 (t)) ∧ (gA G 271 0 (t)) ≤ 60 := fun t a b => by have := iB.2 t a b; omega
  have htt : (0 ≤ t ∧ t ≤ 3) → (gA G 270 0 (t)) = (gA G 58 0 (t)) ∧ (gA G 271 0 (t)) = (gA G 59 0 (t)) ∧ 0 ≤ (gA G 59 0 (t)) ∧ (gA G 59 0 (t)) ≤ 60 := fun h => by have := iB.2 t h.1 (by omega); omega
  unfold CallOk CallPhi
  refine sp_X11_read (d := d + 997) (by first | assumption | exact hts | omega) ?_ ?_
  · intro c1
    refine sp_X12_read (d := d + 998) (by first | assumption | exact mhts | omega) ?_ ?_
    · intro m1
      replace m1 : ¬ ((0 ≤ t ∧ t ≤ 3) ∧ 0 ≤ i ∧ i < (gA G 271 (0) (t))) := m1
      exact ⟨⟨rfl, _, rfl⟩, iL, iP, iS, iF, iO, iE, iT, iR, iB, iX, iH, iG, iQ, iN, iA, iJ⟩
    · intro m1
      replace m1 : ((0 ≤ t ∧ t ≤ 3) ∧ 0 ≤ i ∧ i < (gA G 271 (0) (t))) := m1
      exfalso; omega
  · intro c1
    refine sp_X12_read (d := d + 998) (by first | assumption | exact mhts | omega) ?_ ?_
    · intro m1
      replace m1 : ¬ ((0 ≤ t ∧ t ≤ 3) ∧ 0 ≤ i ∧ i < (gA G 271 (0) (t))) := m1
      exfalso; omega
    · intro m1
      replace m1 : ((0 ≤ t ∧ t ≤ 3) ∧ 0 ≤ i ∧ i < (gA G 271 (0) (t))) := m1
      show (some (vI (gA G 272 (0) (60 * t + i))) = some (vI (gA G 57 (t) (i))) ∧ ∃ vz, some (vI (gA G 57 (t) (i))) = some (vI vz)) ∧ Inv w.1.2 G G
      have h := ((iB.2 t (by omega) (by omega)).2.2 i (by omega) (by omega)).1
      refine ⟨⟨by rw [h], _, rfl⟩, iL, iP, iS, iF, iO, iE, iT, iR, iB, iX, iH, iG, iQ, iN, iA, iJ⟩
set_option maxRecDepth 10000 in
theorem call_blank {l : Launch} {w : Wo} {d : Nat} {G : PH} (hI : Inv w.1.2 G G) {v : Int} : CallOk l w d M_X11_blank M_X12_blank [some (vR 11 (0)), some (vI (v))] [some (vR 12 (0)), some (vI (v)), none] G := by
  obtain ⟨iL, iP, iS, iF, iO, iE, iT, iR, iB, iX, iH, iG, iQ, iN, iA, iJ⟩ := hI
  unfold CallOk CallPhi
  refine sp_X11_blank (d := d + 999)  ?_
  · skip
    refine sp_X12_blank (d := d + 1000)  ?_
    · skip
      show (some (vI (gF G 12 (0) 57)) = some (vI (gF G 5 0 12)) ∧ ∃ vz, some (vI (gF G 5 0 12)) = some (vI vz)) ∧ Inv w.1.2 (sF (sF G 5 (0) 12 (v)) 12 (0) 57 (v)) (sF (sF G 5 (0) 12 (v)) 12 (0) 57 (v))
      refine ⟨⟨by rw [iB.1], _, rfl⟩, iL, iP, iS, iF, iO, iE, iT, iR, ⟨rfl, iB.2⟩, iX, iH, iG, iQ, iN, iA, iJ⟩
set_option maxRecDepth 10000 in
theorem call_canBe {l : Launch} {w : Wo} {d : Nat} {G : PH} (hI : Inv w.1.2 G G) {x : Int} {y : Int} {s : Int} : CallOk l w d M_X11_canBe M_X12_canBe [some (vR 11 (0)), some (vI (x)), some (vI (y)), some (vI (s))] [some (vR 12 (0)), some (vI (x)), some (vI (y)), some (vI (s)), none] G := by
  obtain ⟨iL, iP, iS, iF, iO, iE, iT, iR, iB, iX, iH, iG, iQ, iN, iA, iJ⟩ := hI
  unfold CallOk CallPhi
  refine sp_X11_canBe (d := d + 998)  ?_ ?_
  · intro c1
    refine sp_X12_canBe (d := d + 999)  ?_ ?_
    · intro m1
      replace m1 : ¬ ((1 ≤ x ∧ x ≤ 26) ∧ (1 ≤ y ∧ y ≤ 26) ∧ 0 ≤ s ∧ s ≤ 1) := m1
      exact ⟨⟨rfl, _, rfl⟩, iL, iP, iS, iF, iO, iE, iT, iR, iB, iX, iH, iG, iQ, iN, iA, iJ⟩
    · intro m1 r2 m2
      replace m1 : ((1 ≤ x ∧ x ≤ 26) ∧ (1 ≤ y ∧ y ≤ 26) ∧ 0 ≤ s ∧ s ≤ 1) := m1
      replace m2 : ((gA G 240 (0) (27 * x + y)) = 0 ∧ r2 = 0) ∨ ((gA G 240 (0) (27 * x + y)) ≠ 0 ∧ r2 = 1) := m2
      exfalso; omega
  · intro c1 r c2
    refine sp_X12_canBe (d := d + 999)  ?_ ?_
    · intro m1
      replace m1 : ¬ ((1 ≤ x ∧ x ≤ 26) ∧ (1 ≤ y ∧ y ≤ 26) ∧ 0 ≤ s ∧ s ≤ 1) := m1
      exfalso; omega
    · intro m1 r2 m2
      replace m1 : ((1 ≤ x ∧ x ≤ 26) ∧ (1 ≤ y ∧ y ≤ 26) ∧ 0 ≤ s ∧ s ≤ 1) := m1
      replace m2 : ((gA G 240 (0) (27 * x + y)) = 0 ∧ r2 = 0) ∨ ((gA G 240 (0) (27 * x + y)) ≠ 0 ∧ r2 = 1) := m2
      show (some (vI r2) = some (vI r) ∧ ∃ vz, some (vI r) = some (vI vz)) ∧ Inv w.1.2 (sA (sA G 53 (0) (x * 28 + y) (s)) 240 (0) (27 * x + y) (s)) (sA (sA G 53 (0) (x * 28 + y) (s)) 240 (0) (27 * x + y) (s))
      have h := iR.2.2 x y (by omega) (by omega) (by omega) (by omega)
      have ev : r2 = r := by omega
      subst ev
      refine ⟨⟨rfl, _, rfl⟩, iL, iP, iS, iF, iO, iE, iT, ?_, iB, iX, iH, iG, iQ, iN, iA, iJ⟩
      refine ⟨iR.1, iR.2.1, fun x1 y1 a b a1 b1 => ?_⟩
      have h3 := iR.2.2 x1 y1 a b a1 b1
      by_cases e : x1 = x ∧ y1 = y
      · rw [e.1, e.2]
        simp only [gF_sF, gF_sA, gF_uA, gF_sD, gA_sF, gA_sA, gA_uA, gA_sD, gD_sF, gD_sA, gD_uA, gD_sD, Nat.reduceEqDiff, reduceCtorEq, false_and, and_false, true_and, and_true, ite_true, ite_false, if_true, if_false, ↓reduceIte, and_self]
        omega
      · simp only [gF_sF, gF_sA, gF_uA, gF_sD, gA_sF, gA_sA, gA_uA, gA_sD, gD_sF, gD_sA, gD_uA, gD_sD, Nat.reduceEqDiff, reduceCtorEq, false_and, and_false, true_and, and_true, ite_true, ite_false, if_true, if_false, ↓reduceIte, and_self]
        rw [if_neg (by omega), if_neg (by omega)]
        exact h3
set_option maxRecDepth 10000 in
theorem call_ratio {l : Launch} {w : Wo} {d : Nat} {G : PH} (hI : Inv w.1.2 G G) {v : Int} : CallOk l w d M_X11_ratio M_X12_ratio [some (vR 11 (0)), some (vI (v))] [some (vR 12 (0)), some (vI (v)), none] G := by
  obtain ⟨iL, iP, iS, iF, iO, iE, iT, iR, iB, iX, iH, iG, iQ, iN, iA, iJ⟩ := hI
  unfold CallOk CallPhi
  refine sp_X11_ratio (d := d + 998)  ?_ ?_
  · intro c1
    refine sp_X12_ratio (d := d + 999)  ?_ ?_
    · intro m1
      replace m1 : ¬ (1 ≤ v ∧ v ≤ 99) := m1
      exact ⟨⟨rfl, _, rfl⟩, iL, iP, iS, iF, iO, iE, iT, iR, iB, iX, iH, iG, iQ, iN, iA, iJ⟩
    · intro m1
      replace m1 : (1 ≤ v ∧ v ≤ 99) := m1
      exfalso; omega
  · intro c1
    refine sp_X12_ratio (d := d + 999)  ?_ ?_
    · intro m1
      replace m1 : ¬ (1 ≤ v ∧ v ≤ 99) := m1
      exfalso; omega
    · intro m1
      replace m1 : (1 ≤ v ∧ v ≤ 99) := m1
      show (some (vI (gF G 12 (0) 62)) = some (vI (gF G 10 0 5)) ∧ ∃ vz, some (vI (gF G 10 0 5)) = some (vI vz)) ∧ Inv w.1.2 (sF (sF G 10 (0) 5 (v)) 12 (0) 62 (v)) (sF (sF G 10 (0) 5 (v)) 12 (0) 62 (v))
      refine ⟨⟨by rw [iX.2.1], _, rfl⟩, iL, iP, iS, iF, iO, iE, iT, iR, iB, ⟨iX.1, rfl, c1.1, c1.2⟩, iH, iG, iQ, iN, iA, iJ⟩
set_option maxRecDepth 10000 in
theorem call_bestOf {l : Launch} {w : Wo} {d : Nat} {G : PH} (hI : Inv w.1.2 G G) {s : Int} : CallOk l w d M_X11_bestOf M_X12_bestOf [some (vR 11 (0)), some (vI (s))] [some (vR 12 (0)), some (vI (s))] G := by
  obtain ⟨iL, iP, iS, iF, iO, iE, iT, iR, iB, iX, iH, iG, iQ, iN, iA, iJ⟩ := hI
  have hb : (0 ≤ s ∧ s ≤ 1) → (gA G 95 0 (s)) = if 0 ≤ (gF G 12 0 63) then (gA G 244 0 (s)) else -1 := fun h => (iX.1 s h.1 (by omega)).2.2.2
  unfold CallOk CallPhi
  refine sp_X11_bestOf (d := d + 998)  ?_ ?_
  · intro c1
    refine sp_X12_bestOf (d := d + 998)  ?_ ?_
    · intro m1
      replace m1 : ¬ ((0 ≤ s ∧ s ≤ 1) ∧ 0 ≤ (gF G 12 (0) 63)) := m1
      exact ⟨⟨rfl, _, rfl⟩, iL, iP, iS, iF, iO, iE, iT, iR, iB, iX, iH, iG, iQ, iN, iA, iJ⟩
    · intro m1
      replace m1 : ((0 ≤ s ∧ s ≤ 1) ∧ 0 ≤ (gF G 12 (0) 63)) := m1
      exfalso; omega
  · intro c1
    refine sp_X12_bestOf (d := d + 998)  ?_ ?_
    · intro m1
      replace m1 : ¬ ((0 ≤ s ∧ s ≤ 1) ∧ 0 ≤ (gF G 12 (0) 63)) := m1
      show (some (vI (-1)) = some (vI (gA G 95 0 (s))) ∧ ∃ vz, some (vI (gA G 95 0 (s))) = some (vI vz)) ∧ Inv w.1.2 G G
      have h := hb c1
      rw [if_neg (by omega)] at h
      refine ⟨⟨by rw [h], _, rfl⟩, iL, iP, iS, iF, iO, iE, iT, iR, iB, iX, iH, iG, iQ, iN, iA, iJ⟩
    · intro m1
      replace m1 : ((0 ≤ s ∧ s ≤ 1) ∧ 0 ≤ (gF G 12 (0) 63)) := m1
      show (some (vI (gA G 244 (0) (s))) = some (vI (gA G 95 0 (s))) ∧ ∃ vz, some (vI (gA G 95 0 (s))) = some (vI vz)) ∧ Inv w.1.2 G G
      have h := hb c1
      rw [if_pos (by omega)] at h
      refine ⟨⟨by rw [h], _, rfl⟩, iL, iP, iS, iF, iO, iE, iT, iR, iB, iX, iH, iG, iQ, iN, iA, iJ⟩
set_option maxRecDepth 10000 in
theorem call_offer {l : Launch} {w : Wo} {d : Nat} {G : PH} (hI : Inv w.1.2 G G) {p : Int} : CallOk l w d M_X11_offer M_X12_offer [some (vR 11 (0)), some (vI (p))] [some (vR 12 (0)), some (vI (p)), none, none] G := by
  obtain ⟨iL, iP, iS, iF, iO, iE, iT, iR, iB, iX, iH, iG, iQ, iN, iA, iJ⟩ := hI
  have hsz : 0 ≤ (gF G 1 0 1) ∧ (gF G 1 0 1) ≤ 150 := by have := iP.1; omega
  have ep : (gF G 12 0 17) = (gF G 1 0 1) := iP.1.2.2
  have mhsz : 0 ≤ (gF G 12 0 17) ∧ (gF G 12 0 17) ≤ 150 := by omega
  have hp : ∀ i, 0 ≤ i → i < (gF G 1 0 1) → gD G 30 0 i = some (3, i) := fun i a b => (iP.2.2.2 i a b).1.1
  have hcw := cnt_le (owP G) hsz.1
  have es : (gF G 12 0 22) = (gF G 1 0 3) := iS.1.1
  have hst : 0 ≤ (gF G 1 0 3) ∧ (gF G 1 0 3) ≤ 400 := by have := iS.1; omega
  have mhst : 0 ≤ (gF G 12 0 22) ∧ (gF G 12 0 22) ≤ 400 := by omega
  have hday : 0 ≤ (gF G 1 0 2) ∧ (gF G 1 0 2) ≤ 600 := iP.2.1.2
  have ed : (gF G 12 0 0) = (gF G 1 0 2) := iP.2.1.1
  have hpf := pf iP p
  have hsd : (0 ≤ p ∧ p < (gF G 1 0 1)) → 0 ≤ (gF G 3 (p) 2) ∧ (gF G 3 (p) 2) ≤ 1 := fun _ => by omega
  have mhsd : (0 ≤ p ∧ p < (gF G 12 0 17)) → 0 ≤ (gA G 205 0 (p)) ∧ (gA G 205 0 (p)) ≤ 1 := fun _ => by omega
  have hof : ∀ s, 0 ≤ s → s < 2 → 0 ≤ (gA G 94 0 (s)) ∧ (gA G 94 0 (s)) ≤ 7 := fun s a b => (iX.1 s a b).1.2
  have mhof : ∀ s, 0 ≤ s → s < 2 → 0 ≤ (gA G 243 0 (s)) ∧ (gA G 243 0 (s)) ≤ 7 := fun s a b => by have := (iX.1 s a b).1; omega
  have hOE : (0 ≤ p ∧ p < (gF G 1 0 1)) → (gA G 205 0 (p)) = (gF G 3 (p) 2) ∧ (gA G 243 0 ((gA G 205 0 (p)))) = (gA G 94 0 ((gF G 3 (p) 2))) ∧ (gA G 206 0 (p)) = (gF G 3 (p) 8) := fun h => by
    have h1 : (gA G 205 0 (p)) = (gF G 3 (p) 2) := by omega
    refine ⟨h1, ?_, by omega⟩
    rw [h1]
    exact (iX.1 _ (by omega) (by omega)).1.1
  have hOF : ((0 ≤ p ∧ p < (gF G 12 0 17)) ∧ (∀ i, 0 ≤ i → i < (gA G 243 0 ((gA G 205 0 (p)))) → (gA G 242 0 (7 * (gA G 205 0 (p)) + i)) ≠ p)) ↔ ((0 ≤ p ∧ p < (gF G 1 0 1)) ∧ (∀ i, 0 ≤ i → i < (gA G 94 0 ((gF G 3 (p) 2))) → (gA G 93 ((gF G 3 (p) 2)) (i)) ≠ p)) := by
    rw [ep]
    refine and_congr_right fun h => ?_
    have h1 : (gA G 205 0 (p)) = (gF G 3 (p) 2) := by omega
    have h2 := iX.1 (gF G 3 (p) 2) (by omega) (by omega)
    rw [h1, h2.1.1]
    exact ⟨fun f i a b => by rw [← (h2.2.1 i a b).1]; exact f i a b, fun f i a b => by rw [(h2.2.1 i a b).1]; exact f i a b⟩
  unfold CallOk CallPhi
  refine sp_X11_offer (d := d + 998) (by first | assumption | exact hp | omega) (by first | assumption | exact hsz | omega) (by first | assumption | exact hsd | omega) (by first | assumption | exact hof | omega) ?_ ?_ ?_ ?_
  · intro c1
    refine sp_X12_offer (d := d + 999) (by first | assumption | exact mhsz | omega) (by first | assumption | exact mhsd | omega) (by first | assumption | exact mhof | omega) ?_ ?_ ?_ ?_
    · intro m1
      replace m1 : ¬ ((0 ≤ p ∧ p < (gF G 12 (0) 17)) ∧ (∀ i, 0 ≤ i → i < (gA G 243 (0) ((gA G 205 (0) (p)))) → (gA G 242 (0) (7 * (gA G 205 (0) (p)) + i)) ≠ p)) := m1
      exact ⟨⟨rfl, _, rfl⟩, iL, iP, iS, iF, iO, iE, iT, iR, iB, iX, iH, iG, iQ, iN, iA, iJ⟩
    · intro m1 m2
      replace m1 : (((0 ≤ p ∧ p < (gF G 12 (0) 17)) ∧ (∀ i, 0 ≤ i → i < (gA G 243 (0) ((gA G 205 (0) (p)))) → (gA G 242 (0) (7 * (gA G 205 (0) (p)) + i)) ≠ p))) := m1
      replace m2 : ((gA G 206 (0) (p)) ≠ 0) := m2
      show (some (vI (-3)) = some (vI (-1)) ∧ ∃ vz, some (vI (-1)) = some (vI vz)) ∧ Inv w.1.2 G G
      exact absurd (hOF.mp m1) c1
    · intro m1 m2 m3
      replace m1 : (((0 ≤ p ∧ p < (gF G 12 (0) 17)) ∧ (∀ i, 0 ≤ i → i < (gA G 243 (0) ((gA G 205 (0) (p)))) → (gA G 242 (0) (7 * (gA G 205 (0) (p)) + i)) ≠ p))) := m1
      replace m2 : ((gA G 206 (0) (p)) = 0) := m2
      replace m3 : ((gA G 243 (0) ((gA G 205 (0) (p)))) = 7) := m3
      show (some (vI (-2)) = some (vI (-1)) ∧ ∃ vz, some (vI (-1)) = some (vI vz)) ∧ Inv w.1.2 G G
      exact absurd (hOF.mp m1) c1
    · intro m1 m2 m3
      replace m1 : (((0 ≤ p ∧ p < (gF G 12 (0) 17)) ∧ (∀ i, 0 ≤ i → i < (gA G 243 (0) ((gA G 205 (0) (p)))) → (gA G 242 (0) (7 * (gA G 205 (0) (p)) + i)) ≠ p))) := m1
      replace m2 : ((gA G 206 (0) (p)) = 0) := m2
      replace m3 : ((gA G 243 (0) ((gA G 205 (0) (p)))) < 7) := m3
      show (some (vI ((gA G 243 (0) ((gA G 205 (0) (p)))) + 1)) = some (vI (-1)) ∧ ∃ vz, some (vI (-1)) = some (vI vz)) ∧ Inv w.1.2 (sA (sA G 242 (0) (7 * (gA G 205 (0) (p)) + (gA G 243 (0) ((gA G 205 (0) (p))))) (p)) 243 (0) ((gA G 205 (0) (p))) ((gA G 243 (0) ((gA G 205 (0) (p)))) + 1)) (sA (sA G 242 (0) (7 * (gA G 205 (0) (p)) + (gA G 243 (0) ((gA G 205 (0) (p))))) (p)) 243 (0) ((gA G 205 (0) (p))) ((gA G 243 (0) ((gA G 205 (0) (p)))) + 1))
      exact absurd (hOF.mp m1) c1
  · intro c1 c2
    refine sp_X12_offer (d := d + 999) (by first | assumption | exact mhsz | omega) (by first | assumption | exact mhsd | omega) (by first | assumption | exact mhof | omega) ?_ ?_ ?_ ?_
    · intro m1
      replace m1 : ¬ ((0 ≤ p ∧ p < (gF G 12 (0) 17)) ∧ (∀ i, 0 ≤ i → i < (gA G 243 (0) ((gA G 205 (0) (p)))) → (gA G 242 (0) (7 * (gA G 205 (0) (p)) + i)) ≠ p)) := m1
      show (some (vI (-1)) = some (vI (-3)) ∧ ∃ vz, some (vI (-3)) = some (vI vz)) ∧ Inv w.1.2 G G
      exact absurd (hOF.mpr c1) m1
    · intro m1 m2
      replace m1 : (((0 ≤ p ∧ p < (gF G 12 (0) 17)) ∧ (∀ i, 0 ≤ i → i < (gA G 243 (0) ((gA G 205 (0) (p)))) → (gA G 242 (0) (7 * (gA G 205 (0) (p)) + i)) ≠ p))) := m1
      replace m2 : ((gA G 206 (0) (p)) ≠ 0) := m2
      exact ⟨⟨rfl, _, rfl⟩, iL, iP, iS, iF, iO, iE, iT, iR, iB, iX, iH, iG, iQ, iN, iA, iJ⟩
    · intro m1 m2 m3
      replace m1 : (((0 ≤ p ∧ p < (gF G 12 (0) 17)) ∧ (∀ i, 0 ≤ i → i < (gA G 243 (0) ((gA G 205 (0) (p)))) → (gA G 242 (0) (7 * (gA G 205 (0) (p)) + i)) ≠ p))) := m1
      replace m2 : ((gA G 206 (0) (p)) = 0) := m2
      replace m3 : ((gA G 243 (0) ((gA G 205 (0) (p)))) = 7) := m3
      show (some (vI (-2)) = some (vI (-3)) ∧ ∃ vz, some (vI (-3)) = some (vI vz)) ∧ Inv w.1.2 G G
      have hoe := hOE c1.1
      exfalso; omega
    · intro m1 m2 m3
      replace m1 : (((0 ≤ p ∧ p < (gF G 12 (0) 17)) ∧ (∀ i, 0 ≤ i → i < (gA G 243 (0) ((gA G 205 (0) (p)))) → (gA G 242 (0) (7 * (gA G 205 (0) (p)) + i)) ≠ p))) := m1
      replace m2 : ((gA G 206 (0) (p)) = 0) := m2
      replace m3 : ((gA G 243 (0) ((gA G 205 (0) (p)))) < 7) := m3
      show (some (vI ((gA G 243 (0) ((gA G 205 (0) (p)))) + 1)) = some (vI (-3)) ∧ ∃ vz, some (vI (-3)) = some (vI vz)) ∧ Inv w.1.2 (sA (sA G 242 (0) (7 * (gA G 205 (0) (p)) + (gA G 243 (0) ((gA G 205 (0) (p))))) (p)) 243 (0) ((gA G 205 (0) (p))) ((gA G 243 (0) ((gA G 205 (0) (p)))) + 1)) (sA (sA G 242 (0) (7 * (gA G 205 (0) (p)) + (gA G 243 (0) ((gA G 205 (0) (p))))) (p)) 243 (0) ((gA G 205 (0) (p))) ((gA G 243 (0) ((gA G 205 (0) (p)))) + 1))
      have hoe := hOE c1.1
      exfalso; omega
  · intro c1 c2 c3
    refine sp_X12_offer (d := d + 999) (by first | assumption | exact mhsz | omega) (by first | assumption | exact mhsd | omega) (by first | assumption | exact mhof | omega) ?_ ?_ ?_ ?_
    · intro m1
      replace m1 : ¬ ((0 ≤ p ∧ p < (gF G 12 (0) 17)) ∧ (∀ i, 0 ≤ i → i < (gA G 243 (0) ((gA G 205 (0) (p)))) → (gA G 242 (0) (7 * (gA G 205 (0) (p)) + i)) ≠ p)) := m1
      show (some (vI (-1)) = some (vI (-2)) ∧ ∃ vz, some (vI (-2)) = some (vI vz)) ∧ Inv w.1.2 G G
      exact absurd (hOF.mpr c1) m1
    · intro m1 m2
      replace m1 : (((0 ≤ p ∧ p < (gF G 12 (0) 17)) ∧ (∀ i, 0 ≤ i → i < (gA G 243 (0) ((gA G 205 (0) (p)))) → (gA G 242 (0) (7 * (gA G 205 (0) (p)) + i)) ≠ p))) := m1
      replace m2 : ((gA G 206 (0) (p)) ≠ 0) := m2
      show (some (vI (-3)) = some (vI (-2)) ∧ ∃ vz, some (vI (-2)) = some (vI vz)) ∧ Inv w.1.2 G G
      have hoe := hOE c1.1
      exfalso; omega
    · intro m1 m2 m3
      replace m1 : (((0 ≤ p ∧ p < (gF G 12 (0) 17)) ∧ (∀ i, 0 ≤ i → i < (gA G 243 (0) ((gA G 205 (0) (p)))) → (gA G 242 (0) (7 * (gA G 205 (0) (p)) + i)) ≠ p))) := m1
      replace m2 : ((gA G 206 (0) (p)) = 0) := m2
      replace m3 : ((gA G 243 (0) ((gA G 205 (0) (p)))) = 7) := m3
      exact ⟨⟨rfl, _, rfl⟩, iL, iP, iS, iF, iO, iE, iT, iR, iB, iX, iH, iG, iQ, iN, iA, iJ⟩
    · intro m1 m2 m3
      replace m1 : (((0 ≤ p ∧ p < (gF G 12 (0) 17)) ∧ (∀ i, 0 ≤ i → i < (gA G 243 (0) ((gA G 205 (0) (p)))) → (gA G 242 (0) (7 * (gA G 205 (0) (p)) + i)) ≠ p))) := m1
      replace m2 : ((gA G 206 (0) (p)) = 0) := m2
      replace m3 : ((gA G 243 (0) ((gA G 205 (0) (p)))) < 7) := m3
      show (some (vI ((gA G 243 (0) ((gA G 205 (0) (p)))) + 1)) = some (vI (-2)) ∧ ∃ vz, some (vI (-2)) = some (vI vz)) ∧ Inv w.1.2 (sA (sA G 242 (0) (7 * (gA G 205 (0) (p)) + (gA G 243 (0) ((gA G 205 (0) (p))))) (p)) 243 (0) ((gA G 205 (0) (p))) ((gA G 243 (0) ((gA G 205 (0) (p)))) + 1)) (sA (sA G 242 (0) (7 * (gA G 205 (0) (p)) + (gA G 243 (0) ((gA G 205 (0) (p))))) (p)) 243 (0) ((gA G 205 (0) (p))) ((gA G 243 (0) ((gA G 205 (0) (p)))) + 1))
      have hoe := hOE c1.1
      exfalso; omega
  · intro c1 c2 c3
    refine sp_X12_offer (d := d + 999) (by first | assumption | exact mhsz | omega) (by first | assumption | exact mhsd | omega) (by first | assumption | exact mhof | omega) ?_ ?_ ?_ ?_
    · intro m1
      replace m1 : ¬ ((0 ≤ p ∧ p < (gF G 12 (0) 17)) ∧ (∀ i, 0 ≤ i → i < (gA G 243 (0) ((gA G 205 (0) (p)))) → (gA G 242 (0) (7 * (gA G 205 (0) (p)) + i)) ≠ p)) := m1
      show (some (vI (-1)) = some (vI ((gA G 94 0 ((gF G 3 (p) 2))) + 1)) ∧ ∃ vz, some (vI ((gA G 94 0 ((gF G 3 (p) 2))) + 1)) = some (vI vz)) ∧ Inv w.1.2 (sA (sA G 93 ((gF G 3 (p) 2)) ((gA G 94 0 ((gF G 3 (p) 2)))) (p)) 94 (0) ((gF G 3 (p) 2)) ((gA G 94 0 ((gF G 3 (p) 2))) + 1)) (sA (sA G 93 ((gF G 3 (p) 2)) ((gA G 94 0 ((gF G 3 (p) 2)))) (p)) 94 (0) ((gF G 3 (p) 2)) ((gA G 94 0 ((gF G 3 (p) 2))) + 1))
      exact absurd (hOF.mpr c1) m1
    · intro m1 m2
      replace m1 : (((0 ≤ p ∧ p < (gF G 12 (0) 17)) ∧ (∀ i, 0 ≤ i → i < (gA G 243 (0) ((gA G 205 (0) (p)))) → (gA G 242 (0) (7 * (gA G 205 (0) (p)) + i)) ≠ p))) := m1
      replace m2 : ((gA G 206 (0) (p)) ≠ 0) := m2
      show (some (vI (-3)) = some (vI ((gA G 94 0 ((gF G 3 (p) 2))) + 1)) ∧ ∃ vz, some (vI ((gA G 94 0 ((gF G 3 (p) 2))) + 1)) = some (vI vz)) ∧ Inv w.1.2 (sA (sA G 93 ((gF G 3 (p) 2)) ((gA G 94 0 ((gF G 3 (p) 2)))) (p)) 94 (0) ((gF G 3 (p) 2)) ((gA G 94 0 ((gF G 3 (p) 2))) + 1)) (sA (sA G 93 ((gF G 3 (p) 2)) ((gA G 94 0 ((gF G 3 (p) 2)))) (p)) 94 (0) ((gF G 3 (p) 2)) ((gA G 94 0 ((gF G 3 (p) 2))) + 1))
      have hoe := hOE c1.1
      exfalso; omega
    · intro m1 m2 m3
      replace m1 : (((0 ≤ p ∧ p < (gF G 12 (0) 17)) ∧ (∀ i, 0 ≤ i → i < (gA G 243 (0) ((gA G 205 (0) (p)))) → (gA G 242 (0) (7 * (gA G 205 (0) (p)) + i)) ≠ p))) := m1
      replace m2 : ((gA G 206 (0) (p)) = 0) := m2
      replace m3 : ((gA G 243 (0) ((gA G 205 (0) (p)))) = 7) := m3
      show (some (vI (-2)) = some (vI ((gA G 94 0 ((gF G 3 (p) 2))) + 1)) ∧ ∃ vz, some (vI ((gA G 94 0 ((gF G 3 (p) 2))) + 1)) = some (vI vz)) ∧ Inv w.1.2 (sA (sA G 93 ((gF G 3 (p) 2)) ((gA G 94 0 ((gF G 3 (p) 2)))) (p)) 94 (0) ((gF G 3 (p) 2)) ((gA G 94 0 ((gF G 3 (p) 2))) + 1)) (sA (sA G 93 ((gF G 3 (p) 2)) ((gA G 94 0 ((gF G 3 (p) 2)))) (p)) 94 (0) ((gF G 3 (p) 2)) ((gA G 94 0 ((gF G 3 (p) 2))) + 1))
      have hoe := hOE c1.1
      exfalso; omega
    · intro m1 m2 m3
      replace m1 : (((0 ≤ p ∧ p < (gF G 12 (0) 17)) ∧ (∀ i, 0 ≤ i → i < (gA G 243 (0) ((gA G 205 (0) (p)))) → (gA G 242 (0) (7 * (gA G 205 (0) (p)) + i)) ≠ p))) := m1
      replace m2 : ((gA G 206 (0) (p)) = 0) := m2
      replace m3 : ((gA G 243 (0) ((gA G 205 (0) (p)))) < 7) := m3
      show (some (vI ((gA G 243 (0) ((gA G 205 (0) (p)))) + 1)) = some (vI ((gA G 94 0 ((gF G 3 (p) 2))) + 1)) ∧ ∃ vz, some (vI ((gA G 94 0 ((gF G 3 (p) 2))) + 1)) = some (vI vz)) ∧ Inv w.1.2 (sA (sA (sA (sA G 93 ((gF G 3 (p) 2)) ((gA G 94 0 ((gF G 3 (p) 2)))) (p)) 94 (0) ((gF G 3 (p) 2)) ((gA G 94 0 ((gF G 3 (p) 2))) + 1)) 242 (0) (7 * (gA G 205 (0) (p)) + (gA G 243 (0) ((gA G 205 (0) (p))))) (p)) 243 (0) ((gA G 205 (0) (p))) ((gA G 243 (0) ((gA G 205 (0) (p)))) + 1)) (sA (sA (sA (sA G 93 ((gF G 3 (p) 2)) ((gA G 94 0 ((gF G 3 (p) 2)))) (p)) 94 (0) ((gF G 3 (p) 2)) ((gA G 94 0 ((gF G 3 (p) 2))) + 1)) 242 (0) (7 * (gA G 205 (0) (p)) + (gA G 243 (0) ((gA G 205 (0) (p))))) (p)) 243 (0) ((gA G 205 (0) (p))) ((gA G 243 (0) ((gA G 205 (0) (p)))) + 1))
      obtain ⟨hh, hoe, -⟩ := hOE c1.1
      have hsp := hsd c1.1
      have hof2 := hof (gF G 3 (p) 2) hsp.1 (by omega)
      refine ⟨⟨by rw [hoe], _, rfl⟩, iL, iP, iS, iF, iO, iE, iT, iR, iB, ?_, iH, iG, iQ, iN, iA, iJ⟩
      refine ⟨fun s a b => ?_, iX.2⟩
      have h := iX.1 s a b
      rw [hh] at hoe
      by_cases e : s = (gF G 3 (p) 2)
      · rw [e] at h ⊢
        simp only [gF_sF, gF_sA, gF_uA, gF_sD, gA_sF, gA_sA, gA_uA, gA_sD, gD_sF, gD_sA, gD_uA, gD_sD, Nat.reduceEqDiff, reduceCtorEq, false_and, and_false, true_and, and_true, ite_true, ite_false, if_true, if_false, ↓reduceIte, and_self, hh, hoe]
        refine ⟨by omega, all_s (fun i x y => ?_) ?_, fun i j x y z => ?_, h.2.2.2⟩
        · rw [if_neg (by omega), if_neg (by omega)]
          exact h.2.1 i x y
        · simp only [gF_sF, gF_sA, gF_uA, gF_sD, gA_sF, gA_sA, gA_uA, gA_sD, gD_sF, gD_sA, gD_uA, gD_sD, Nat.reduceEqDiff, reduceCtorEq, false_and, and_false, true_and, and_true, ite_true, ite_false, if_true, if_false, ↓reduceIte, and_self]
          omega
        · by_cases e2 : j = (gA G 94 0 ((gF G 3 (p) 2)))
          · rw [if_neg (by omega), if_pos e2]
            exact c1.2 i x (by omega)
          · rw [if_neg (by omega), if_neg e2]
            exact h.2.2.1 i j x y (by omega)
      · simp only [gF_sF, gF_sA, gF_uA, gF_sD, gA_sF, gA_sA, gA_uA, gA_sD, gD_sF, gD_sA, gD_uA, gD_sD, Nat.reduceEqDiff, reduceCtorEq, false_and, and_false, true_and, and_true, ite_true, ite_false, if_true, if_false, ↓reduceIte, and_self, hh, hoe, e]
        refine ⟨h.1, fun i x y => ?_, h.2.2⟩
        rw [if_neg (by omega)]
        exact h.2.1 i x y
set_option maxRecDepth 10000 in
theorem call_load {l : Launch} {w : Wo} {d : Nat} {G : PH} (hI : Inv w.1.2 G G) {c : Int} {s : Int} {f : Int} : CallOk l w d M_X11_load M_X12_load [some (vR 11 (0)), some (vI (c)), some (vI (s)), some (vI (f))] [some (vR 12 (0)), some (vI (c)), some (vI (s)), some (vI (f)), none] G := by
  obtain ⟨iL, iP, iS, iF, iO, iE, iT, iR, iB, iX, iH, iG, iQ, iN, iA, iJ⟩ := hI
  have hc : 0 ≤ (gF G 2 0 2) ∧ (gF G 2 0 2) ≤ 16 := ⟨iL.1.1, iL.1.2.1⟩
  have ec : (gF G 12 0 3) = (gF G 2 0 2) := iL.1.2.2
  have mhc : 0 ≤ (gF G 12 0 3) ∧ (gF G 12 0 3) ≤ 16 := by omega
  have hr : ∀ k, 0 ≤ k → k < 324 → 0 ≤ (gA G 43 0 (k)) ∧ (gA G 43 0 (k)) ≤ 9 := fun k a b => (iL.2.2.1 k a b).2
  have mhr : ∀ k, 0 ≤ k → k < 324 → 0 ≤ (gA G 202 0 (k)) ∧ (gA G 202 0 (k)) ≤ 9 := fun k a b => by have := iL.2.2.1 k a b; omega
  have hto : 0 ≤ (gF G 7 0 2) ∧ (gF G 7 0 2) ≤ 6 := iH.1.2
  have eto : (gF G 12 0 71) = (gF G 7 0 2) := iH.1.1
  have mhto : 0 ≤ (gF G 12 0 71) ∧ (gF G 12 0 71) ≤ 6 := by omega
  have hLK : (((0 ≤ c ∧ c < (gF G 12 0 3)) ∧ (0 ≤ s ∧ s ≤ 99) ∧ (0 ≤ f ∧ f ≤ 99) ∧ s + f ≠ 0) ∧ (∀ i, 0 ≤ i → i < (gF G 12 0 71) → (gA G 248 0 (i)) ≠ c)) ↔ (((0 ≤ c ∧ c < (gF G 2 0 2)) ∧ (0 ≤ s ∧ s ≤ 99) ∧ (0 ≤ f ∧ f ≤ 99) ∧ s + f ≠ 0) ∧ (∀ i, 0 ≤ i → i < (gF G 7 0 2) → (gA G 65 0 (i)) ≠ c)) := by
    rw [ec, eto]
    exact and_congr_right fun _ => ⟨fun f i a b => by rw [← (iH.2.1 i a b).1.1]; exact f i a b, fun f i a b => by rw [(iH.2.1 i a b).1.1]; exact f i a b⟩
  unfold CallOk CallPhi
  refine sp_X11_load (d := d + 996) (by first | assumption | exact hc | omega) (by first | assumption | exact hr | omega) (by first | assumption | exact hto | omega) ?_ ?_ ?_ ?_
  · intro c1
    refine sp_X12_load (d := d + 998) (by first | assumption | exact mhc | omega) (by first | assumption | exact mhr | omega) (by first | assumption | exact mhto | omega) ?_ ?_ ?_ ?_
    · intro m1
      replace m1 : ¬ (((0 ≤ c ∧ c < (gF G 12 (0) 3)) ∧ (0 ≤ s ∧ s ≤ 99) ∧ (0 ≤ f ∧ f ≤ 99) ∧ s + f ≠ 0) ∧ (∀ i, 0 ≤ i → i < (gF G 12 (0) 71) → (gA G 248 (0) (i)) ≠ c)) := m1
      exact ⟨⟨rfl, _, rfl⟩, iL, iP, iS, iF, iO, iE, iT, iR, iB, iX, iH, iG, iQ, iN, iA, iJ⟩
    · intro m1 m2 Dm m3 m4
      replace m1 : ((0 ≤ c ∧ c < (gF G 12 (0) 3)) ∧ (0 ≤ s ∧ s ≤ 99) ∧ (0 ≤ f ∧ f ≤ 99) ∧ s + f ≠ 0) := m1
      replace m2 : (∀ i, 0 ≤ i → i < (gF G 12 (0) 71) → (gA G 248 (0) (i)) ≠ c) := m2
      replace m3 : IsD (fun u v => (gA G 202 (0) (18 * u + v))) (fun u => u = c ∨ 16 ≤ u ∨ (gA G 200 (0) (u)) = (gA G 200 (0) (c))) c 100000 Dm := m3
      replace m4 : 100000 ≤ Dm 16 := m4
      show (some (vI (-4)) = some (vI (-1)) ∧ ∃ vz, some (vI (-1)) = some (vI vz)) ∧ Inv w.1.2 (uA G 234 (0) (Dm)) (uA G 234 (0) (Dm))
      exact absurd (hLK.mp ⟨m1, m2⟩) c1
    · intro m1 m2 Dm m3 m4 m5
      replace m1 : ((0 ≤ c ∧ c < (gF G 12 (0) 3)) ∧ (0 ≤ s ∧ s ≤ 99) ∧ (0 ≤ f ∧ f ≤ 99) ∧ s + f ≠ 0) := m1
      replace m2 : (∀ i, 0 ≤ i → i < (gF G 12 (0) 71) → (gA G 248 (0) (i)) ≠ c) := m2
      replace m3 : IsD (fun u v => (gA G 202 (0) (18 * u + v))) (fun u => u = c ∨ 16 ≤ u ∨ (gA G 200 (0) (u)) = (gA G 200 (0) (c))) c 100000 Dm := m3
      replace m4 : Dm 16 < 100000 := m4
      replace m5 : (gF G 12 (0) 71) = 6 := m5
      show (some (vI (-2)) = some (vI (-1)) ∧ ∃ vz, some (vI (-1)) = some (vI vz)) ∧ Inv w.1.2 (uA G 234 (0) (Dm)) (uA G 234 (0) (Dm))
      exact absurd (hLK.mp ⟨m1, m2⟩) c1
    · intro m1 m2 Dm m3 m4 m5
      replace m1 : ((0 ≤ c ∧ c < (gF G 12 (0) 3)) ∧ (0 ≤ s ∧ s ≤ 99) ∧ (0 ≤ f ∧ f ≤ 99) ∧ s + f ≠ 0) := m1
      replace m2 : (∀ i, 0 ≤ i → i < (gF G 12 (0) 71) → (gA G 248 (0) (i)) ≠ c) := m2
      replace m3 : IsD (fun u v => (gA G 202 (0) (18 * u + v))) (fun u => u = c ∨ 16 ≤ u ∨ (gA G 200 (0) (u)) = (gA G 200 (0) (c))) c 100000 Dm := m3
      replace m4 : Dm 16 < 100000 := m4
      replace m5 : (gF G 12 (0) 71) < 6 := m5
      show (some (vI ((gF G 12 (0) 71) + 1)) = some (vI (-1)) ∧ ∃ vz, some (vI (-1)) = some (vI vz)) ∧ Inv w.1.2 (sF (sA (sA (sA (uA G 234 (0) (Dm)) 248 (0) ((gF G 12 (0) 71)) (c)) 249 (0) ((gF G 12 (0) 71)) (s)) 250 (0) ((gF G 12 (0) 71)) (f)) 12 (0) 71 ((gF G 12 (0) 71) + 1)) (sF (sA (sA (sA (uA G 234 (0) (Dm)) 248 (0) ((gF G 12 (0) 71)) (c)) 249 (0) ((gF G 12 (0) 71)) (s)) 250 (0) ((gF G 12 (0) 71)) (f)) 12 (0) 71 ((gF G 12 (0) 71) + 1))
      exact absurd (hLK.mp ⟨m1, m2⟩) c1
  · intro c1 c2 Dr fr c3 c4 c5
    refine sp_X12_load (d := d + 998) (by first | assumption | exact mhc | omega) (by first | assumption | exact mhr | omega) (by first | assumption | exact mhto | omega) ?_ ?_ ?_ ?_
    · intro m1
      replace m1 : ¬ (((0 ≤ c ∧ c < (gF G 12 (0) 3)) ∧ (0 ≤ s ∧ s ≤ 99) ∧ (0 ≤ f ∧ f ≤ 99) ∧ s + f ≠ 0) ∧ (∀ i, 0 ≤ i → i < (gF G 12 (0) 71) → (gA G 248 (0) (i)) ≠ c)) := m1
      show (some (vI (-1)) = some (vI (-4)) ∧ ∃ vz, some (vI (-4)) = some (vI vz)) ∧ Inv w.1.2 (uA (uA G 44 (0) (Dr)) 45 (0) (fr)) (uA (uA G 44 (0) (Dr)) 45 (0) (fr))
      exact absurd (hLK.mpr ⟨c1, c2⟩) m1
    · intro m1 m2 Dm m3 m4
      replace m1 : ((0 ≤ c ∧ c < (gF G 12 (0) 3)) ∧ (0 ≤ s ∧ s ≤ 99) ∧ (0 ≤ f ∧ f ≤ 99) ∧ s + f ≠ 0) := m1
      replace m2 : (∀ i, 0 ≤ i → i < (gF G 12 (0) 71) → (gA G 248 (0) (i)) ≠ c) := m2
      replace m3 : IsD (fun u v => (gA G 202 (0) (18 * u + v))) (fun u => u = c ∨ 16 ≤ u ∨ (gA G 200 (0) (u)) = (gA G 200 (0) (c))) c 100000 Dm := m3
      replace m4 : 100000 ≤ Dm 16 := m4
      show (some (vI (-4)) = some (vI (-4)) ∧ ∃ vz, some (vI (-4)) = some (vI vz)) ∧ Inv w.1.2 (uA (uA (uA G 44 (0) (Dr)) 45 (0) (fr)) 234 (0) (Dm)) (uA (uA (uA G 44 (0) (Dr)) 45 (0) (fr)) 234 (0) (Dm))
      have hfp := far_pair iL (c := c) (c1 := c) (t := 16) (by omega) (by omega) (by omega) (by omega) c3 c4 m3
      refine ⟨⟨rfl, _, rfl⟩, iL, iP, iS, iF, iO, iE, iT, iR, iB, iX, iH, iG, iQ, iN, iA, iJ⟩
    · intro m1 m2 Dm m3 m4 m5
      replace m1 : ((0 ≤ c ∧ c < (gF G 12 (0) 3)) ∧ (0 ≤ s ∧ s ≤ 99) ∧ (0 ≤ f ∧ f ≤ 99) ∧ s + f ≠ 0) := m1
      replace m2 : (∀ i, 0 ≤ i → i < (gF G 12 (0) 71) → (gA G 248 (0) (i)) ≠ c) := m2
      replace m3 : IsD (fun u v => (gA G 202 (0) (18 * u + v))) (fun u => u = c ∨ 16 ≤ u ∨ (gA G 200 (0) (u)) = (gA G 200 (0) (c))) c 100000 Dm := m3
      replace m4 : Dm 16 < 100000 := m4
      replace m5 : (gF G 12 (0) 71) = 6 := m5
      show (some (vI (-2)) = some (vI (-4)) ∧ ∃ vz, some (vI (-4)) = some (vI vz)) ∧ Inv w.1.2 (uA (uA (uA G 44 (0) (Dr)) 45 (0) (fr)) 234 (0) (Dm)) (uA (uA (uA G 44 (0) (Dr)) 45 (0) (fr)) 234 (0) (Dm))
      have hfp := far_pair iL (c := c) (c1 := c) (t := 16) (by omega) (by omega) (by omega) (by omega) c3 c4 m3
      exfalso; omega
    · intro m1 m2 Dm m3 m4 m5
      replace m1 : ((0 ≤ c ∧ c < (gF G 12 (0) 3)) ∧ (0 ≤ s ∧ s ≤ 99) ∧ (0 ≤ f ∧ f ≤ 99) ∧ s + f ≠ 0) := m1
      replace m2 : (∀ i, 0 ≤ i → i < (gF G 12 (0) 71) → (gA G 248 (0) (i)) ≠ c) := m2
      replace m3 : IsD (fun u v => (gA G 202 (0) (18 * u + v))) (fun u => u = c ∨ 16 ≤ u ∨ (gA G 200 (0) (u)) = (gA G 200 (0) (c))) c 100000 Dm := m3
      replace m4 : Dm 16 < 100000 := m4
      replace m5 : (gF G 12 (0) 71) < 6 := m5
      show (some (vI ((gF G 12 (0) 71) + 1)) = some (vI (-4)) ∧ ∃ vz, some (vI (-4)) = some (vI vz)) ∧ Inv w.1.2 (sF (sA (sA (sA (uA (uA (uA G 44 (0) (Dr)) 45 (0) (fr)) 234 (0) (Dm)) 248 (0) ((gF G 12 (0) 71)) (c)) 249 (0) ((gF G 12 (0) 71)) (s)) 250 (0) ((gF G 12 (0) 71)) (f)) 12 (0) 71 ((gF G 12 (0) 71) + 1)) (sF (sA (sA (sA (uA (uA (uA G 44 (0) (Dr)) 45 (0) (fr)) 234 (0) (Dm)) 248 (0) ((gF G 12 (0) 71)) (c)) 249 (0) ((gF G 12 (0) 71)) (s)) 250 (0) ((gF G 12 (0) 71)) (f)) 12 (0) 71 ((gF G 12 (0) 71) + 1))
      have hfp := far_pair iL (c := c) (c1 := c) (t := 16) (by omega) (by omega) (by omega) (by omega) c3 c4 m3
      exfalso; omega
  · intro c1 c2 Dr fr c3 c4 c5 c6
    refine sp_X12_load (d := d + 998) (by first | assumption | exact mhc | omega) (by first | assumption | exact mhr | omega) (by first | assumption | exact mhto | omega) ?_ ?_ ?_ ?_
    · intro m1
      replace m1 : ¬ (((0 ≤ c ∧ c < (gF G 12 (0) 3)) ∧ (0 ≤ s ∧ s ≤ 99) ∧ (0 ≤ f ∧ f ≤ 99) ∧ s + f ≠ 0) ∧ (∀ i, 0 ≤ i → i < (gF G 12 (0) 71) → (gA G 248 (0) (i)) ≠ c)) := m1
      show (some (vI (-1)) = some (vI (-2)) ∧ ∃ vz, some (vI (-2)) = some (vI vz)) ∧ Inv w.1.2 (uA (uA G 44 (0) (Dr)) 45 (0) (fr)) (uA (uA G 44 (0) (Dr)) 45 (0) (fr))
      exact absurd (hLK.mpr ⟨c1, c2⟩) m1
    · intro m1 m2 Dm m3 m4
      replace m1 : ((0 ≤ c ∧ c < (gF G 12 (0) 3)) ∧ (0 ≤ s ∧ s ≤ 99) ∧ (0 ≤ f ∧ f ≤ 99) ∧ s + f ≠ 0) := m1
      replace m2 : (∀ i, 0 ≤ i → i < (gF G 12 (0) 71) → (gA G 248 (0) (i)) ≠ c) := m2
      replace m3 : IsD (fun u v => (gA G 202 (0) (18 * u + v))) (fun u => u = c ∨ 16 ≤ u ∨ (gA G 200 (0) (u)) = (gA G 200 (0) (c))) c 100000 Dm := m3
      replace m4 : 100000 ≤ Dm 16 := m4
      show (some (vI (-4)) = some (vI (-2)) ∧ ∃ vz, some (vI (-2)) = some (vI vz)) ∧ Inv w.1.2 (uA (uA (uA G 44 (0) (Dr)) 45 (0) (fr)) 234 (0) (Dm)) (uA (uA (uA G 44 (0) (Dr)) 45 (0) (fr)) 234 (0) (Dm))
      have hfp := far_pair iL (c := c) (c1 := c) (t := 16) (by omega) (by omega) (by omega) (by omega) c3 c4 m3
      exfalso; omega
    · intro m1 m2 Dm m3 m4 m5
      replace m1 : ((0 ≤ c ∧ c < (gF G 12 (0) 3)) ∧ (0 ≤ s ∧ s ≤ 99) ∧ (0 ≤ f ∧ f ≤ 99) ∧ s + f ≠ 0) := m1
      replace m2 : (∀ i, 0 ≤ i → i < (gF G 12 (0) 71) → (gA G 248 (0) (i)) ≠ c) := m2
      replace m3 : IsD (fun u v => (gA G 202 (0) (18 * u + v))) (fun u => u = c ∨ 16 ≤ u ∨ (gA G 200 (0) (u)) = (gA G 200 (0) (c))) c 100000 Dm := m3
      replace m4 : Dm 16 < 100000 := m4
      replace m5 : (gF G 12 (0) 71) = 6 := m5
      show (some (vI (-2)) = some (vI (-2)) ∧ ∃ vz, some (vI (-2)) = some (vI vz)) ∧ Inv w.1.2 (uA (uA (uA G 44 (0) (Dr)) 45 (0) (fr)) 234 (0) (Dm)) (uA (uA (uA G 44 (0) (Dr)) 45 (0) (fr)) 234 (0) (Dm))
      have hfp := far_pair iL (c := c) (c1 := c) (t := 16) (by omega) (by omega) (by omega) (by omega) c3 c4 m3
      refine ⟨⟨rfl, _, rfl⟩, iL, iP, iS, iF, iO, iE, iT, iR, iB, iX, iH, iG, iQ, iN, iA, iJ⟩
    · intro m1 m2 Dm m3 m4 m5
      replace m1 : ((0 ≤ c ∧ c < (gF G 12 (0) 3)) ∧ (0 ≤ s ∧ s ≤ 99) ∧ (0 ≤ f ∧ f ≤ 99) ∧ s + f ≠ 0) := m1
      replace m2 : (∀ i, 0 ≤ i → i < (gF G 12 (0) 71) → (gA G 248 (0) (i)) ≠ c) := m2
      replace m3 : IsD (fun u v => (gA G 202 (0) (18 * u + v))) (fun u => u = c ∨ 16 ≤ u ∨ (gA G 200 (0) (u)) = (gA G 200 (0) (c))) c 100000 Dm := m3
      replace m4 : Dm 16 < 100000 := m4
      replace m5 : (gF G 12 (0) 71) < 6 := m5
      show (some (vI ((gF G 12 (0) 71) + 1)) = some (vI (-2)) ∧ ∃ vz, some (vI (-2)) = some (vI vz)) ∧ Inv w.1.2 (sF (sA (sA (sA (uA (uA (uA G 44 (0) (Dr)) 45 (0) (fr)) 234 (0) (Dm)) 248 (0) ((gF G 12 (0) 71)) (c)) 249 (0) ((gF G 12 (0) 71)) (s)) 250 (0) ((gF G 12 (0) 71)) (f)) 12 (0) 71 ((gF G 12 (0) 71) + 1)) (sF (sA (sA (sA (uA (uA (uA G 44 (0) (Dr)) 45 (0) (fr)) 234 (0) (Dm)) 248 (0) ((gF G 12 (0) 71)) (c)) 249 (0) ((gF G 12 (0) 71)) (s)) 250 (0) ((gF G 12 (0) 71)) (f)) 12 (0) 71 ((gF G 12 (0) 71) + 1))
      have hfp := far_pair iL (c := c) (c1 := c) (t := 16) (by omega) (by omega) (by omega) (by omega) c3 c4 m3
      exfalso; omega
  · intro c1 c2 Dr fr c3 c4 c5 c6
    refine sp_X12_load (d := d + 998) (by first | assumption | exact mhc | omega) (by first | assumption | exact mhr | omega) (by first | assumption | exact mhto | omega) ?_ ?_ ?_ ?_
    · intro m1
      replace m1 : ¬ (((0 ≤ c ∧ c < (gF G 12 (0) 3)) ∧ (0 ≤ s ∧ s ≤ 99) ∧ (0 ≤ f ∧ f ≤ 99) ∧ s + f ≠ 0) ∧ (∀ i, 0 ≤ i → i < (gF G 12 (0) 71) → (gA G 248 (0) (i)) ≠ c)) := m1
      show (some (vI (-1)) = some (vI ((gF G 7 0 2) + 1)) ∧ ∃ vz, some (vI ((gF G 7 0 2) + 1)) = some (vI vz)) ∧ Inv w.1.2 (sF (sA (sA (sA (uA (uA G 44 (0) (Dr)) 45 (0) (fr)) 65 (0) ((gF G 7 0 2)) (c)) 66 (0) ((gF G 7 0 2)) (s)) 67 (0) ((gF G 7 0 2)) (f)) 7 (0) 2 ((gF G 7 0 2) + 1)) (sF (sA (sA (sA (uA (uA G 44 (0) (Dr)) 45 (0) (fr)) 65 (0) ((gF G 7 0 2)) (c)) 66 (0) ((gF G 7 0 2)) (s)) 67 (0) ((gF G 7 0 2)) (f)) 7 (0) 2 ((gF G 7 0 2) + 1))
      exact absurd (hLK.mpr ⟨c1, c2⟩) m1
    · intro m1 m2 Dm m3 m4
      replace m1 : ((0 ≤ c ∧ c < (gF G 12 (0) 3)) ∧ (0 ≤ s ∧ s ≤ 99) ∧ (0 ≤ f ∧ f ≤ 99) ∧ s + f ≠ 0) := m1
      replace m2 : (∀ i, 0 ≤ i → i < (gF G 12 (0) 71) → (gA G 248 (0) (i)) ≠ c) := m2
      replace m3 : IsD (fun u v => (gA G 202 (0) (18 * u + v))) (fun u => u = c ∨ 16 ≤ u ∨ (gA G 200 (0) (u)) = (gA G 200 (0) (c))) c 100000 Dm := m3
      replace m4 : 100000 ≤ Dm 16 := m4
      show (some (vI (-4)) = some (vI ((gF G 7 0 2) + 1)) ∧ ∃ vz, some (vI ((gF G 7 0 2) + 1)) = some (vI vz)) ∧ Inv w.1.2 (uA (sF (sA (sA (sA (uA (uA G 44 (0) (Dr)) 45 (0) (fr)) 65 (0) ((gF G 7 0 2)) (c)) 66 (0) ((gF G 7 0 2)) (s)) 67 (0) ((gF G 7 0 2)) (f)) 7 (0) 2 ((gF G 7 0 2) + 1)) 234 (0) (Dm)) (uA (sF (sA (sA (sA (uA (uA G 44 (0) (Dr)) 45 (0) (fr)) 65 (0) ((gF G 7 0 2)) (c)) 66 (0) ((gF G 7 0 2)) (s)) 67 (0) ((gF G 7 0 2)) (f)) 7 (0) 2 ((gF G 7 0 2) + 1)) 234 (0) (Dm))
      have hfp := far_pair iL (c := c) (c1 := c) (t := 16) (by omega) (by omega) (by omega) (by omega) c3 c4 m3
      exfalso; omega
    · intro m1 m2 Dm m3 m4 m5
      replace m1 : ((0 ≤ c ∧ c < (gF G 12 (0) 3)) ∧ (0 ≤ s ∧ s ≤ 99) ∧ (0 ≤ f ∧ f ≤ 99) ∧ s + f ≠ 0) := m1
      replace m2 : (∀ i, 0 ≤ i → i < (gF G 12 (0) 71) → (gA G 248 (0) (i)) ≠ c) := m2
      replace m3 : IsD (fun u v => (gA G 202 (0) (18 * u + v))) (fun u => u = c ∨ 16 ≤ u ∨ (gA G 200 (0) (u)) = (gA G 200 (0) (c))) c 100000 Dm := m3
      replace m4 : Dm 16 < 100000 := m4
      replace m5 : (gF G 12 (0) 71) = 6 := m5
      show (some (vI (-2)) = some (vI ((gF G 7 0 2) + 1)) ∧ ∃ vz, some (vI ((gF G 7 0 2) + 1)) = some (vI vz)) ∧ Inv w.1.2 (uA (sF (sA (sA (sA (uA (uA G 44 (0) (Dr)) 45 (0) (fr)) 65 (0) ((gF G 7 0 2)) (c)) 66 (0) ((gF G 7 0 2)) (s)) 67 (0) ((gF G 7 0 2)) (f)) 7 (0) 2 ((gF G 7 0 2) + 1)) 234 (0) (Dm)) (uA (sF (sA (sA (sA (uA (uA G 44 (0) (Dr)) 45 (0) (fr)) 65 (0) ((gF G 7 0 2)) (c)) 66 (0) ((gF G 7 0 2)) (s)) 67 (0) ((gF G 7 0 2)) (f)) 7 (0) 2 ((gF G 7 0 2) + 1)) 234 (0) (Dm))
      have hfp := far_pair iL (c := c) (c1 := c) (t := 16) (by omega) (by omega) (by omega) (by omega) c3 c4 m3
      exfalso; omega
    · intro m1 m2 Dm m3 m4 m5
      replace m1 : ((0 ≤ c ∧ c < (gF G 12 (0) 3)) ∧ (0 ≤ s ∧ s ≤ 99) ∧ (0 ≤ f ∧ f ≤ 99) ∧ s + f ≠ 0) := m1
      replace m2 : (∀ i, 0 ≤ i → i < (gF G 12 (0) 71) → (gA G 248 (0) (i)) ≠ c) := m2
      replace m3 : IsD (fun u v => (gA G 202 (0) (18 * u + v))) (fun u => u = c ∨ 16 ≤ u ∨ (gA G 200 (0) (u)) = (gA G 200 (0) (c))) c 100000 Dm := m3
      replace m4 : Dm 16 < 100000 := m4
      replace m5 : (gF G 12 (0) 71) < 6 := m5
      show (some (vI ((gF G 12 (0) 71) + 1)) = some (vI ((gF G 7 0 2) + 1)) ∧ ∃ vz, some (vI ((gF G 7 0 2) + 1)) = some (vI vz)) ∧ Inv w.1.2 (sF (sA (sA (sA (uA (sF (sA (sA (sA (uA (uA G 44 (0) (Dr)) 45 (0) (fr)) 65 (0) ((gF G 7 0 2)) (c)) 66 (0) ((gF G 7 0 2)) (s)) 67 (0) ((gF G 7 0 2)) (f)) 7 (0) 2 ((gF G 7 0 2) + 1)) 234 (0) (Dm)) 248 (0) ((gF G 12 (0) 71)) (c)) 249 (0) ((gF G 12 (0) 71)) (s)) 250 (0) ((gF G 12 (0) 71)) (f)) 12 (0) 71 ((gF G 12 (0) 71) + 1)) (sF (sA (sA (sA (uA (sF (sA (sA (sA (uA (uA G 44 (0) (Dr)) 45 (0) (fr)) 65 (0) ((gF G 7 0 2)) (c)) 66 (0) ((gF G 7 0 2)) (s)) 67 (0) ((gF G 7 0 2)) (f)) 7 (0) 2 ((gF G 7 0 2) + 1)) 234 (0) (Dm)) 248 (0) ((gF G 12 (0) 71)) (c)) 249 (0) ((gF G 12 (0) 71)) (s)) 250 (0) ((gF G 12 (0) 71)) (f)) 12 (0) 71 ((gF G 12 (0) 71) + 1))
      refine ⟨⟨by rw [eto], _, rfl⟩, iL, iP, iS, iF, iO, iE, iT, iR, iB, iX, ?_, iG, iQ, iN, iA, iJ⟩
      refine ⟨by simp only [gF_sF, gF_sA, gF_uA, gF_sD, gA_sF, gA_sA, gA_uA, gA_sD, gD_sF, gD_sA, gD_uA, gD_sD, Nat.reduceEqDiff, reduceCtorEq, false_and, and_false, true_and, and_true, ite_true, ite_false, if_true, if_false, ↓reduceIte, and_self]; omega, ?_, iH.2.2⟩
      simp only [gF_sF, gF_sA, gF_uA, gF_sD, gA_sF, gA_sA, gA_uA, gA_sD, gD_sF, gD_sA, gD_uA, gD_sD, Nat.reduceEqDiff, reduceCtorEq, false_and, and_false, true_and, and_true, ite_true, ite_false, if_true, if_false, ↓reduceIte, and_self]
      refine all_s (fun i a b => ?_) ?_
      · have e : i ≠ (gF G 7 0 2) := by omega
        simp only [gF_sF, gF_sA, gF_uA, gF_sD, gA_sF, gA_sA, gA_uA, gA_sD, gD_sF, gD_sA, gD_uA, gD_sD, Nat.reduceEqDiff, reduceCtorEq, false_and, and_false, true_and, and_true, ite_true, ite_false, if_true, if_false, ↓reduceIte, and_self, e, eto]
        exact iH.2.1 i a b
      · simp only [gF_sF, gF_sA, gF_uA, gF_sD, gA_sF, gA_sA, gA_uA, gA_sD, gD_sF, gD_sA, gD_uA, gD_sD, Nat.reduceEqDiff, reduceCtorEq, false_and, and_false, true_and, and_true, ite_true, ite_false, if_true, if_false, ↓reduceIte, and_self, eto]
        omega
set_option maxRecDepth 10000 in
theorem call_voyage {l : Launch} {w : Wo} {d : Nat} {G : PH} (hI : Inv w.1.2 G G) {i : Int} {k : Int} : CallOk l w d M_X11_voyage M_X12_voyage [some (vR 11 (0)), some (vI (i)), some (vI (k))] [some (vR 12 (0)), some (vI (i)), some (vI (k))] G := by
  obtain ⟨iL, iP, iS, iF, iO, iE, iT, iR, iB, iX, iH, iG, iQ, iN, iA, iJ⟩ := hI
  have hv : (gF G 7 0 16) ≤ 6 := iH.2.2.1.2.2
  have ev : (gF G 12 0 77) = (gF G 7 0 16) := iH.2.2.1.1
  have mhv : (gF G 12 0 77) ≤ 6 := by omega
  unfold CallOk CallPhi
  refine sp_X11_voyage (d := d + 998) (by first | assumption | exact hv | omega) ?_ ?_
  · intro c1
    refine sp_X12_voyage (d := d + 999) (by first | assumption | exact mhv | omega) ?_ ?_
    · intro m1
      replace m1 : ¬ ((0 ≤ i ∧ i < (gF G 12 (0) 77)) ∧ 0 ≤ k ∧ k ≤ 1) := m1
      exact ⟨⟨rfl, _, rfl⟩, iL, iP, iS, iF, iO, iE, iT, iR, iB, iX, iH, iG, iQ, iN, iA, iJ⟩
    · intro m1 v2 m2
      replace m1 : ((0 ≤ i ∧ i < (gF G 12 (0) 77)) ∧ 0 ≤ k ∧ k ≤ 1) := m1
      replace m2 : (k = 0 ∧ v2 = (gA G 254 (0) (i))) ∨ (k = 1 ∧ v2 = (gA G 255 (0) (i))) := m2
      exfalso; omega
  · intro c1 v c2
    refine sp_X12_voyage (d := d + 999) (by first | assumption | exact mhv | omega) ?_ ?_
    · intro m1
      replace m1 : ¬ ((0 ≤ i ∧ i < (gF G 12 (0) 77)) ∧ 0 ≤ k ∧ k ≤ 1) := m1
      exfalso; omega
    · intro m1 v2 m2
      replace m1 : ((0 ≤ i ∧ i < (gF G 12 (0) 77)) ∧ 0 ≤ k ∧ k ≤ 1) := m1
      replace m2 : (k = 0 ∧ v2 = (gA G 254 (0) (i))) ∨ (k = 1 ∧ v2 = (gA G 255 (0) (i))) := m2
      show (some (vI v2) = some (vI v) ∧ ∃ vz, some (vI v) = some (vI vz)) ∧ Inv w.1.2 G G
      have h := iH.2.2.2 i (by omega) (by omega)
      have e2 : v2 = v := by omega
      subst e2
      refine ⟨⟨rfl, _, rfl⟩, iL, iP, iS, iF, iO, iE, iT, iR, iB, iX, iH, iG, iQ, iN, iA, iJ⟩
set_option maxRecDepth 10000 in
theorem call_walker {l : Launch} {w : Wo} {d : Nat} {G : PH} (hI : Inv w.1.2 G G) {r : Int} {n : Int} : CallOk l w d M_X11_walker M_X12_walker [some (vR 11 (0)), some (vI (r)), some (vI (n))] [some (vR 12 (0)), some (vI (r)), some (vI (n))] G := by
  obtain ⟨iL, iP, iS, iF, iO, iE, iT, iR, iB, iX, iH, iG, iQ, iN, iA, iJ⟩ := hI
  have hwk : ∀ r, 0 ≤ r → r < 2 → 0 ≤ (gA G 22 0 (r)) ∧ (gA G 22 0 (r)) ≤ 10 := fun r a b => (iG.1 r a b).1.2
  have mhwk : ∀ r, 0 ≤ r → r < 2 → 0 ≤ (gA G 257 0 (r)) ∧ (gA G 257 0 (r)) ≤ 10 := fun r a b => by have := (iG.1 r a b).1; omega
  have hw : (0 ≤ r ∧ r ≤ 1) → (gA G 257 0 (r)) = (gA G 22 0 (r)) ∧ 0 ≤ (gA G 22 0 (r)) ∧ (gA G 22 0 (r)) ≤ 10 := fun h => (iG.1 r h.1 (by omega)).1
  unfold CallOk CallPhi
  refine sp_X11_walker (d := d + 998) (by first | assumption | exact hwk | omega) ?_ ?_ ?_
  · intro c1
    refine sp_X12_walker (d := d + 998) (by first | assumption | exact mhwk | omega) ?_ ?_ ?_
    · intro m1
      replace m1 : ¬ ((0 ≤ r ∧ r ≤ 1) ∧ 1 ≤ n ∧ n ≤ 9) := m1
      exact ⟨⟨rfl, _, rfl⟩, iL, iP, iS, iF, iO, iE, iT, iR, iB, iX, iH, iG, iQ, iN, iA, iJ⟩
    · intro m1 m2
      replace m1 : (((0 ≤ r ∧ r ≤ 1) ∧ 1 ≤ n ∧ n ≤ 9)) := m1
      replace m2 : (10 ≤ (gA G 257 (0) (r))) := m2
      exfalso; omega
    · intro m1 m2
      replace m1 : (((0 ≤ r ∧ r ≤ 1) ∧ 1 ≤ n ∧ n ≤ 9)) := m1
      replace m2 : (¬ (10 ≤ (gA G 257 (0) (r)))) := m2
      exfalso; omega
  · intro c1 c2
    refine sp_X12_walker (d := d + 998) (by first | assumption | exact mhwk | omega) ?_ ?_ ?_
    · intro m1
      replace m1 : ¬ ((0 ≤ r ∧ r ≤ 1) ∧ 1 ≤ n ∧ n ≤ 9) := m1
      exfalso; omega
    · intro m1 m2
      replace m1 : (((0 ≤ r ∧ r ≤ 1) ∧ 1 ≤ n ∧ n ≤ 9)) := m1
      replace m2 : (10 ≤ (gA G 257 (0) (r))) := m2
      exact ⟨⟨rfl, _, rfl⟩, iL, iP, iS, iF, iO, iE, iT, iR, iB, iX, iH, iG, iQ, iN, iA, iJ⟩
    · intro m1 m2
      replace m1 : (((0 ≤ r ∧ r ≤ 1) ∧ 1 ≤ n ∧ n ≤ 9)) := m1
      replace m2 : (¬ (10 ≤ (gA G 257 (0) (r)))) := m2
      exfalso; omega
  · intro c1 c2
    refine sp_X12_walker (d := d + 998) (by first | assumption | exact mhwk | omega) ?_ ?_ ?_
    · intro m1
      replace m1 : ¬ ((0 ≤ r ∧ r ≤ 1) ∧ 1 ≤ n ∧ n ≤ 9) := m1
      exfalso; omega
    · intro m1 m2
      replace m1 : (((0 ≤ r ∧ r ≤ 1) ∧ 1 ≤ n ∧ n ≤ 9)) := m1
      replace m2 : (10 ≤ (gA G 257 (0) (r))) := m2
      exfalso; omega
    · intro m1 m2
      replace m1 : (((0 ≤ r ∧ r ≤ 1) ∧ 1 ≤ n ∧ n ≤ 9)) := m1
      replace m2 : (¬ (10 ≤ (gA G 257 (0) (r)))) := m2
      show (some (vI ((gA G 257 (0) (r)) + 1)) = some (vI ((gA G 22 0 (r)) + 1)) ∧ ∃ vz, some (vI ((gA G 22 0 (r)) + 1)) = some (vI vz)) ∧ Inv w.1.2 (sA (sA (sA (sA G 21 (r) ((gA G 22 0 (r))) (n)) 22 (0) (r) ((gA G 22 0 (r)) + 1)) 256 (0) (10 * r + (gA G 257 (0) (r))) (n)) 257 (0) (r) ((gA G 257 (0) (r)) + 1)) (sA (sA (sA (sA G 21 (r) ((gA G 22 0 (r))) (n)) 22 (0) (r) ((gA G 22 0 (r)) + 1)) 256 (0) (10 * r + (gA G 257 (0) (r))) (n)) 257 (0) (r) ((gA G 257 (0) (r)) + 1))
      have hw1 := hw c1.1
      refine ⟨⟨by rw [hw1.1], _, rfl⟩, iL, iP, iS, iF, iO, iE, iT, iR, iB, iX, iH, ?_, iQ, iN, iA, iJ⟩
      refine ⟨fun r1 a b => ?_, iG.2⟩
      have h := iG.1 r1 a b
      by_cases e : r1 = r
      · rw [e] at h ⊢
        simp only [gF_sF, gF_sA, gF_uA, gF_sD, gA_sF, gA_sA, gA_uA, gA_sD, gD_sF, gD_sA, gD_uA, gD_sD, Nat.reduceEqDiff, reduceCtorEq, false_and, and_false, true_and, and_true, ite_true, ite_false, if_true, if_false, ↓reduceIte, and_self, hw1]
        refine ⟨by omega, all_s (fun i x y => ?_) ?_⟩
        · rw [if_neg (by omega), if_neg (by omega)]
          exact h.2 i x y
        · simp only [gF_sF, gF_sA, gF_uA, gF_sD, gA_sF, gA_sA, gA_uA, gA_sD, gD_sF, gD_sA, gD_uA, gD_sD, Nat.reduceEqDiff, reduceCtorEq, false_and, and_false, true_and, and_true, ite_true, ite_false, if_true, if_false, ↓reduceIte, and_self]
          omega
      · simp only [gF_sF, gF_sA, gF_uA, gF_sD, gA_sF, gA_sA, gA_uA, gA_sD, gD_sF, gD_sA, gD_uA, gD_sD, Nat.reduceEqDiff, reduceCtorEq, false_and, and_false, true_and, and_true, ite_true, ite_false, if_true, if_false, ↓reduceIte, and_self, hw1, e]
        refine ⟨h.1, fun i x y => ?_⟩
        rw [if_neg (by omega)]
        exact h.2 i x y
set_option maxRecDepth 10000 in
theorem call_began {l : Launch} {w : Wo} {d : Nat} {G : PH} (hI : Inv w.1.2 G G) {m : Int} : CallOk l w d M_X11_began M_X12_began [some (vR 11 (0)), some (vI (m))] [some (vR 12 (0)), some (vI (m))] G := by
  obtain ⟨iL, iP, iS, iF, iO, iE, iT, iR, iB, iX, iH, iG, iQ, iN, iA, iJ⟩ := hI
  have hl : (gF G 0 0 8) ≤ 180 := iG.2.1.2.2
  have el : (gF G 12 0 87) = (gF G 0 0 8) := iG.2.1.1
  have mhl : (gF G 12 0 87) ≤ 180 := by omega
  unfold CallOk CallPhi
  refine sp_X11_began (d := d + 999) (by first | assumption | exact hl | omega) ?_ ?_
  · intro c1
    refine sp_X12_began (d := d + 1000) (by first | assumption | exact mhl | omega) ?_ ?_
    · intro m1
      replace m1 : ¬ (0 ≤ m ∧ m < (gF G 12 (0) 87)) := m1
      exact ⟨⟨rfl, _, rfl⟩, iL, iP, iS, iF, iO, iE, iT, iR, iB, iX, iH, iG, iQ, iN, iA, iJ⟩
    · intro m1
      replace m1 : (0 ≤ m ∧ m < (gF G 12 (0) 87)) := m1
      exfalso; omega
  · intro c1
    refine sp_X12_began (d := d + 1000) (by first | assumption | exact mhl | omega) ?_ ?_
    · intro m1
      replace m1 : ¬ (0 ≤ m ∧ m < (gF G 12 (0) 87)) := m1
      exfalso; omega
    · intro m1
      replace m1 : (0 ≤ m ∧ m < (gF G 12 (0) 87)) := m1
      show (some (vI (gA G 259 (0) (m))) = some (vI (gA G 29 0 (m))) ∧ ∃ vz, some (vI (gA G 29 0 (m))) = some (vI vz)) ∧ Inv w.1.2 G G
      refine ⟨⟨by rw [iG.2.2 m c1.1 c1.2], _, rfl⟩, iL, iP, iS, iF, iO, iE, iT, iR, iB, iX, iH, iG, iQ, iN, iA, iJ⟩
set_option maxRecDepth 10000 in
theorem call_sought {l : Launch} {w : Wo} {d : Nat} {G : PH} (hI : Inv w.1.2 G G) {c : Int} {a : Int} {b : Int} : CallOk l w d M_X11_sought M_X12_sought [some (vR 11 (0)), some (vI (c)), some (vI (a)), some (vI (b))] [some (vR 12 (0)), some (vI (c)), some (vI (a)), some (vI (b))] G := by
  obtain ⟨iL, iP, iS, iF, iO, iE, iT, iR, iB, iX, iH, iG, iQ, iN, iA, iJ⟩ := hI
  have hc : 0 ≤ (gF G 2 0 2) ∧ (gF G 2 0 2) ≤ 16 := ⟨iL.1.1, iL.1.2.1⟩
  have ec : (gF G 12 0 3) = (gF G 2 0 2) := iL.1.2.2
  have mhc : 0 ≤ (gF G 12 0 3) ∧ (gF G 12 0 3) ≤ 16 := by omega
  have hr : ∀ k, 0 ≤ k → k < 324 → 0 ≤ (gA G 43 0 (k)) ∧ (gA G 43 0 (k)) ≤ 9 := fun k a b => (iL.2.2.1 k a b).2
  have mhr : ∀ k, 0 ≤ k → k < 324 → 0 ≤ (gA G 202 0 (k)) ∧ (gA G 202 0 (k)) ≤ 9 := fun k a b => by have := iL.2.2.1 k a b; omega
  have hso : 0 ≤ (gF G 1 0 13) ∧ (gF G 1 0 13) ≤ 5 := iQ.1.2
  have eso : (gF G 12 0 91) = (gF G 1 0 13) := iQ.1.1
  have mhso : 0 ≤ (gF G 12 0 91) ∧ (gF G 12 0 91) ≤ 5 := by omega
  unfold CallOk CallPhi
  refine sp_X11_sought (d := d + 997) (by first | assumption | exact hc | omega) (by first | assumption | exact hso | omega) ?_ ?_ ?_
  · intro c1
    refine sp_X12_sought (d := d + 998) (by first | assumption | exact mhso | omega) ?_ ?_ ?_
    · intro m1
      replace m1 : ¬ ((0 ≤ c ∧ c < (gF G 12 (0) 3)) ∧ (0 ≤ a ∧ a ≤ 600) ∧ (0 ≤ b ∧ b ≤ 600) ∧ a ≤ b) := m1
      exact ⟨⟨rfl, _, rfl⟩, iL, iP, iS, iF, iO, iE, iT, iR, iB, iX, iH, iG, iQ, iN, iA, iJ⟩
    · intro m1 m2
      replace m1 : (((0 ≤ c ∧ c < (gF G 12 (0) 3)) ∧ (0 ≤ a ∧ a ≤ 600) ∧ (0 ≤ b ∧ b ≤ 600) ∧ a ≤ b)) := m1
      replace m2 : (5 ≤ (gF G 12 (0) 91)) := m2
      exfalso; omega
    · intro m1 m2
      replace m1 : (((0 ≤ c ∧ c < (gF G 12 (0) 3)) ∧ (0 ≤ a ∧ a ≤ 600) ∧ (0 ≤ b ∧ b ≤ 600) ∧ a ≤ b)) := m1
      replace m2 : (¬ (5 ≤ (gF G 12 (0) 91))) := m2
      exfalso; omega
  · intro c1 c2
    refine sp_X12_sought (d := d + 998) (by first | assumption | exact mhso | omega) ?_ ?_ ?_
    · intro m1
      replace m1 : ¬ ((0 ≤ c ∧ c < (gF G 12 (0) 3)) ∧ (0 ≤ a ∧ a ≤ 600) ∧ (0 ≤ b ∧ b ≤ 600) ∧ a ≤ b) := m1
      exfalso; omega
    · intro m1 m2
      replace m1 : (((0 ≤ c ∧ c < (gF G 12 (0) 3)) ∧ (0 ≤ a ∧ a ≤ 600) ∧ (0 ≤ b ∧ b ≤ 600) ∧ a ≤ b)) := m1
      replace m2 : (5 ≤ (gF G 12 (0) 91)) := m2
      exact ⟨⟨rfl, _, rfl⟩, iL, iP, iS, iF, iO, iE, iT, iR, iB, iX, iH, iG, iQ, iN, iA, iJ⟩
    · intro m1 m2
      replace m1 : (((0 ≤ c ∧ c < (gF G 12 (0) 3)) ∧ (0 ≤ a ∧ a ≤ 600) ∧ (0 ≤ b ∧ b ≤ 600) ∧ a ≤ b)) := m1
      replace m2 : (¬ (5 ≤ (gF G 12 (0) 91))) := m2
      exfalso; omega
  · intro c1 c2
    refine sp_X12_sought (d := d + 998) (by first | assumption | exact mhso | omega) ?_ ?_ ?_
    · intro m1
      replace m1 : ¬ ((0 ≤ c ∧ c < (gF G 12 (0) 3)) ∧ (0 ≤ a ∧ a ≤ 600) ∧ (0 ≤ b ∧ b ≤ 600) ∧ a ≤ b) := m1
      exfalso; omega
    · intro m1 m2
      replace m1 : (((0 ≤ c ∧ c < (gF G 12 (0) 3)) ∧ (0 ≤ a ∧ a ≤ 600) ∧ (0 ≤ b ∧ b ≤ 600) ∧ a ≤ b)) := m1
      replace m2 : (5 ≤ (gF G 12 (0) 91)) := m2
      exfalso; omega
    · intro m1 m2
      replace m1 : (((0 ≤ c ∧ c < (gF G 12 (0) 3)) ∧ (0 ≤ a ∧ a ≤ 600) ∧ (0 ≤ b ∧ b ≤ 600) ∧ a ≤ b)) := m1
      replace m2 : (¬ (5 ≤ (gF G 12 (0) 91))) := m2
      show (some (vI ((gF G 12 (0) 91) + 1)) = some (vI ((gF G 1 0 13) + 1)) ∧ ∃ vz, some (vI ((gF G 1 0 13) + 1)) = some (vI vz)) ∧ Inv w.1.2 (sF (sA (sA (sA (sF (sA (sA (sA G 36 (0) ((gF G 1 0 13)) (c)) 37 (0) ((gF G 1 0 13)) (a)) 38 (0) ((gF G 1 0 13)) (b)) 1 (0) 13 ((gF G 1 0 13) + 1)) 260 (0) ((gF G 12 (0) 91)) (c)) 261 (0) ((gF G 12 (0) 91)) (a)) 262 (0) ((gF G 12 (0) 91)) (b)) 12 (0) 91 ((gF G 12 (0) 91) + 1)) (sF (sA (sA (sA (sF (sA (sA (sA G 36 (0) ((gF G 1 0 13)) (c)) 37 (0) ((gF G 1 0 13)) (a)) 38 (0) ((gF G 1 0 13)) (b)) 1 (0) 13 ((gF G 1 0 13) + 1)) 260 (0) ((gF G 12 (0) 91)) (c)) 261 (0) ((gF G 12 (0) 91)) (a)) 262 (0) ((gF G 12 (0) 91)) (b)) 12 (0) 91 ((gF G 12 (0) 91) + 1))
      refine ⟨⟨by rw [eso], _, rfl⟩, iL, iP, iS, iF, iO, iE, iT, iR, iB, iX, iH, iG, ?_, iN, iA, iJ⟩
      refine ⟨by simp only [gF_sF, gF_sA, gF_uA, gF_sD, gA_sF, gA_sA, gA_uA, gA_sD, gD_sF, gD_sA, gD_uA, gD_sD, Nat.reduceEqDiff, reduceCtorEq, false_and, and_false, true_and, and_true, ite_true, ite_false, if_true, if_false, ↓reduceIte, and_self]; omega, ?_, iQ.2.2⟩
      simp only [gF_sF, gF_sA, gF_uA, gF_sD, gA_sF, gA_sA, gA_uA, gA_sD, gD_sF, gD_sA, gD_uA, gD_sD, Nat.reduceEqDiff, reduceCtorEq, false_and, and_false, true_and, and_true, ite_true, ite_false, if_true, if_false, ↓reduceIte, and_self]
      refine all_s (fun i a b => ?_) ?_
      · have e : i ≠ (gF G 1 0 13) := by omega
        simp only [gF_sF, gF_sA, gF_uA, gF_sD, gA_sF, gA_sA, gA_uA, gA_sD, gD_sF, gD_sA, gD_uA, gD_sD, Nat.reduceEqDiff, reduceCtorEq, false_and, and_false, true_and, and_true, ite_true, ite_false, if_true, if_false, ↓reduceIte, and_self, e, eso]
        exact iQ.2.1 i a b
      · simp only [gF_sF, gF_sA, gF_uA, gF_sD, gA_sF, gA_sA, gA_uA, gA_sD, gD_sF, gD_sA, gD_uA, gD_sD, Nat.reduceEqDiff, reduceCtorEq, false_and, and_false, true_and, and_true, ite_true, ite_false, if_true, if_false, ↓reduceIte, and_self, eso]
set_option maxRecDepth 10000 in
theorem call_find {l : Launch} {w : Wo} {d : Nat} {G : PH} (hI : Inv w.1.2 G G) {z : Int} : CallOk l w d M_X11_find M_X12_find [some (vR 11 (0)), some (vI (z))] [some (vR 12 (0)), some (vI (z)), none] G := by
  obtain ⟨iL, iP, iS, iF, iO, iE, iT, iR, iB, iX, iH, iG, iQ, iN, iA, iJ⟩ := hI
  have hsz : 0 ≤ (gF G 1 0 1) ∧ (gF G 1 0 1) ≤ 150 := by have := iP.1; omega
  have ep : (gF G 12 0 17) = (gF G 1 0 1) := iP.1.2.2
  have mhsz : 0 ≤ (gF G 12 0 17) ∧ (gF G 12 0 17) ≤ 150 := by omega
  have hp : ∀ i, 0 ≤ i → i < (gF G 1 0 1) → gD G 30 0 i = some (3, i) := fun i a b => (iP.2.2.2 i a b).1.1
  have hcw := cnt_le (owP G) hsz.1
  have es : (gF G 12 0 22) = (gF G 1 0 3) := iS.1.1
  have hst : 0 ≤ (gF G 1 0 3) ∧ (gF G 1 0 3) ≤ 400 := by have := iS.1; omega
  have mhst : 0 ≤ (gF G 12 0 22) ∧ (gF G 12 0 22) ≤ 400 := by omega
  have hday : 0 ≤ (gF G 1 0 2) ∧ (gF G 1 0 2) ≤ 600 := iP.2.1.2
  have ed : (gF G 12 0 0) = (gF G 1 0 2) := iP.2.1.1
  have hso : 0 ≤ (gF G 1 0 13) ∧ (gF G 1 0 13) ≤ 5 := iQ.1.2
  have eso : (gF G 12 0 91) = (gF G 1 0 13) := iQ.1.1
  have mhso : 0 ≤ (gF G 12 0 91) ∧ (gF G 12 0 91) ≤ 5 := by omega
  unfold CallOk CallPhi
  refine sp_X11_find (d := d + 997) (by first | assumption | exact hp | omega) (by first | assumption | exact hsz | omega) (by first | assumption | exact hst | omega) (by first | assumption | exact hso | omega) ?_ ?_ ?_
  · intro c1
    refine sp_X12_find (d := d + 998) (by first | assumption | exact mhsz | omega) (by first | assumption | exact mhst | omega) (by first | assumption | exact mhso | omega) ?_ ?_ ?_
    · intro m1
      replace m1 : ¬ (0 ≤ z ∧ z ≤ 1) := m1
      exact ⟨⟨rfl, _, rfl⟩, iL, iP, iS, iF, iO, iE, iT, iR, iB, iX, iH, iG, iQ, iN, iA, iJ⟩
    · intro m1 m2
      replace m1 : (0 ≤ z ∧ z ≤ 1) := m1
      replace m2 : ((gF G 12 (0) 91) = 0) := m2
      exfalso; omega
    · intro m1 m2 F2 n2 m3
      replace m1 : (0 ≤ z ∧ z ≤ 1) := m1
      replace m2 : ((gF G 12 (0) 91) ≠ 0) := m2
      replace m3 : SelOk (fun i => (((gA G 205 (0) (i)) = z ∧ (gA G 206 (0) (i)) ≤ 4) ∧ (∀ x, 0 ≤ x → x < (gF G 12 (0) 22) → ∀ y, 0 ≤ y → y < (gF G 12 (0) 91) → ((gA G 215 (0) (x)) = i → ((gA G 217 (0) (x)) ≤ (gA G 262 (0) (y)) ∧ (gA G 217 (0) (x)) ≤ (gF G 12 (0) 0) ∧ (gA G 261 (0) (y)) ≤ (gA G 262 (0) (y)) ∧ (gA G 261 (0) (y)) ≤ (gF G 12 (0) 0) ∧ ((gA G 218 (0) (x)) < 0 ∨ (0 ≤ (gA G 218 (0) (x)) ∧ (gA G 217 (0) (x)) ≤ (gA G 218 (0) (x)) ∧ (gA G 261 (0) (y)) ≤ (gA G 218 (0) (x))))) → (gA G 216 (0) (x)) = (gA G 260 (0) (y)))))) (gF G 12 (0) 17) F2 n2 := m3
      exfalso; omega
  · intro c1 c2
    refine sp_X12_find (d := d + 998) (by first | assumption | exact mhsz | omega) (by first | assumption | exact mhst | omega) (by first | assumption | exact mhso | omega) ?_ ?_ ?_
    · intro m1
      replace m1 : ¬ (0 ≤ z ∧ z ≤ 1) := m1
      exfalso; omega
    · intro m1 m2
      replace m1 : (0 ≤ z ∧ z ≤ 1) := m1
      replace m2 : ((gF G 12 (0) 91) = 0) := m2
      exact ⟨⟨rfl, _, rfl⟩, iL, iP, iS, iF, iO, iE, iT, iR, iB, iX, iH, iG, iQ, iN, iA, iJ⟩
    · intro m1 m2 F2 n2 m3
      replace m1 : (0 ≤ z ∧ z ≤ 1) := m1
      replace m2 : ((gF G 12 (0) 91) ≠ 0) := m2
      replace m3 : SelOk (fun i => (((gA G 205 (0) (i)) = z ∧ (gA G 206 (0) (i)) ≤ 4) ∧ (∀ x, 0 ≤ x → x < (gF G 12 (0) 22) → ∀ y, 0 ≤ y → y < (gF G 12 (0) 91) → ((gA G 215 (0) (x)) = i → ((gA G 217 (0) (x)) ≤ (gA G 262 (0) (y)) ∧ (gA G 217 (0) (x)) ≤ (gF G 12 (0) 0) ∧ (gA G 261 (0) (y)) ≤ (gA G 262 (0) (y)) ∧ (gA G 261 (0) (y)) ≤ (gF G 12 (0) 0) ∧ ((gA G 218 (0) (x)) < 0 ∨ (0 ≤ (gA G 218 (0) (x)) ∧ (gA G 217 (0) (x)) ≤ (gA G 218 (0) (x)) ∧ (gA G 261 (0) (y)) ≤ (gA G 218 (0) (x))))) → (gA G 216 (0) (x)) = (gA G 260 (0) (y)))))) (gF G 12 (0) 17) F2 n2 := m3
      exfalso; omega
  · intro c1 c2 F n c3
    refine sp_X12_find (d := d + 998) (by first | assumption | exact mhsz | omega) (by first | assumption | exact mhst | omega) (by first | assumption | exact mhso | omega) ?_ ?_ ?_
    · intro m1
      replace m1 : ¬ (0 ≤ z ∧ z ≤ 1) := m1
      exfalso; omega
    · intro m1 m2
      replace m1 : (0 ≤ z ∧ z ≤ 1) := m1
      replace m2 : ((gF G 12 (0) 91) = 0) := m2
      exfalso; omega
    · intro m1 m2 F2 n2 m3
      replace m1 : (0 ≤ z ∧ z ≤ 1) := m1
      replace m2 : ((gF G 12 (0) 91) ≠ 0) := m2
      replace m3 : SelOk (fun i => (((gA G 205 (0) (i)) = z ∧ (gA G 206 (0) (i)) ≤ 4) ∧ (∀ x, 0 ≤ x → x < (gF G 12 (0) 22) → ∀ y, 0 ≤ y → y < (gF G 12 (0) 91) → ((gA G 215 (0) (x)) = i → ((gA G 217 (0) (x)) ≤ (gA G 262 (0) (y)) ∧ (gA G 217 (0) (x)) ≤ (gF G 12 (0) 0) ∧ (gA G 261 (0) (y)) ≤ (gA G 262 (0) (y)) ∧ (gA G 261 (0) (y)) ≤ (gF G 12 (0) 0) ∧ ((gA G 218 (0) (x)) < 0 ∨ (0 ≤ (gA G 218 (0) (x)) ∧ (gA G 217 (0) (x)) ≤ (gA G 218 (0) (x)) ∧ (gA G 261 (0) (y)) ≤ (gA G 218 (0) (x))))) → (gA G 216 (0) (x)) = (gA G 260 (0) (y)))))) (gF G 12 (0) 17) F2 n2 := m3
      show (some (vI n2) = some (vI n) ∧ ∃ vz, some (vI n) = some (vI vz)) ∧ Inv w.1.2 (sF (uA (sF (uA G 39 (0) (F)) 1 (0) 15 (n)) 263 (0) (F2)) 12 (0) 93 (n2)) (sF (uA (sF (uA G 39 (0) (F)) 1 (0) 15 (n)) 263 (0) (F2)) 12 (0) 93 (n2))
      rw [ep] at m3
      obtain ⟨e1, e2⟩ := Sel_eq hsz.1 c3 m3 (fun i a b => by
        have hpf := pf iP i
        rw [could_eq iP iS iQ i, show (gA G 205 0 (i)) = (gF G 3 (i) 2) by omega, show (gA G 206 0 (i)) = (gF G 3 (i) 8) by omega])
      subst e1
      refine ⟨⟨rfl, _, rfl⟩, iL, iP, iS, iF, iO, iE, iT, iR, iB, iX, iH, iG, ?_, iN, iA, iJ⟩
      refine ⟨iQ.1, iQ.2.1, ?_, ?_⟩
      · simp only [gF_sF, gF_sA, gF_uA, gF_sD, gA_sF, gA_sA, gA_uA, gA_sD, gD_sF, gD_sA, gD_uA, gD_sD, Nat.reduceEqDiff, reduceCtorEq, false_and, and_false, true_and, and_true, ite_true, ite_false, if_true, if_false, ↓reduceIte, and_self]
        have := cnt_le (fun i => (((gF G 3 (i) 2) = z ∧ (gF G 3 (i) 8) ≤ 4) ∧ (∀ x, 0 ≤ x → x < (gF G 1 0 3) → ∀ y, 0 ≤ y → y < (gF G 1 0 13) → ((gA G 32 0 (x)) = i → ((gA G 34 0 (x)) ≤ (gA G 38 0 (y)) ∧ (gA G 37 0 (y)) ≤ (gA G 38 0 (y)) ∧ (((gA G 35 0 (x)) = -1 ∧ (gA G 34 0 (x)) ≤ (gF G 1 0 2) ∧ (gA G 37 0 (y)) ≤ (gF G 1 0 2)) ∨ ((gA G 35 0 (x)) ≠ -1 ∧ (gA G 34 0 (x)) ≤ (gA G 35 0 (x)) ∧ (gA G 37 0 (y)) ≤ (gA G 35 0 (x))))) → (gA G 33 0 (x)) = (gA G 36 0 (y)))))) hsz.1
        rw [← c3.1] at this
        omega
      · simp only [gF_sF, gF_sA, gF_uA, gF_sD, gA_sF, gA_sA, gA_uA, gA_sD, gD_sF, gD_sA, gD_uA, gD_sD, Nat.reduceEqDiff, reduceCtorEq, false_and, and_false, true_and, and_true, ite_true, ite_false, if_true, if_false, ↓reduceIte, and_self]
        exact e2
set_option maxRecDepth 10000 in
theorem call_found {l : Launch} {w : Wo} {d : Nat} {G : PH} (hI : Inv w.1.2 G G) {i : Int} : CallOk l w d M_X11_found M_X12_found [some (vR 11 (0)), some (vI (i))] [some (vR 12 (0)), some (vI (i))] G := by
  obtain ⟨iL, iP, iS, iF, iO, iE, iT, iR, iB, iX, iH, iG, iQ, iN, iA, iJ⟩ := hI
  have hf : (gF G 1 0 15) ≤ 150 := iQ.2.2.1.2.2
  have ef : (gF G 12 0 93) = (gF G 1 0 15) := iQ.2.2.1.1
  have mhf : (gF G 12 0 93) ≤ 150 := by omega
  unfold CallOk CallPhi
  refine sp_X11_found (d := d + 999) (by first | assumption | exact hf | omega) ?_ ?_ ?_
  · intro c1
    refine sp_X12_found (d := d + 1000) (by first | assumption | exact mhf | omega) ?_ ?_ ?_
    · intro m1
      replace m1 : i = -1 := m1
      show (some (vI 1) = some (vI 1) ∧ ∃ vz, some (vI 1) = some (vI vz)) ∧ Inv w.1.2 (sF (sF G 1 (0) 13 (0)) 12 (0) 91 (0)) (sF (sF G 1 (0) 13 (0)) 12 (0) 91 (0))
      refine ⟨⟨rfl, _, rfl⟩, iL, iP, iS, iF, iO, iE, iT, iR, iB, iX, iH, iG, ⟨⟨rfl, by simp only [gF_sF, gF_sA, gF_uA, gF_sD, gA_sF, gA_sA, gA_uA, gA_sD, gD_sF, gD_sA, gD_uA, gD_sD, Nat.reduceEqDiff, reduceCtorEq, false_and, and_false, true_and, and_true, ite_true, ite_false, if_true, if_false, ↓reduceIte, and_self]; omega⟩, fun i a b => absurd b (by simp only [gF_sF, gF_sA, gF_uA, gF_sD, gA_sF, gA_sA, gA_uA, gA_sD, gD_sF, gD_sA, gD_uA, gD_sD, Nat.reduceEqDiff, reduceCtorEq, false_and, and_false, true_and, and_true, ite_true, ite_false, if_true, if_false, ↓reduceIte, and_self]; omega), iQ.2.2⟩, iN, iA, iJ⟩
    · intro m1 m2
      replace m1 : i ≠ -1 := m1
      replace m2 : (0 ≤ i ∧ i < (gF G 12 (0) 93)) := m2
      exfalso; omega
    · intro m1 m2
      replace m1 : i ≠ -1 := m1
      replace m2 : ¬ (0 ≤ i ∧ i < (gF G 12 (0) 93)) := m2
      exfalso; omega
  · intro c1 c2
    refine sp_X12_found (d := d + 1000) (by first | assumption | exact mhf | omega) ?_ ?_ ?_
    · intro m1
      replace m1 : i = -1 := m1
      exfalso; omega
    · intro m1 m2
      replace m1 : i ≠ -1 := m1
      replace m2 : (0 ≤ i ∧ i < (gF G 12 (0) 93)) := m2
      show (some (vI (gA G 263 (0) (i))) = some (vI (gA G 39 0 (i))) ∧ ∃ vz, some (vI (gA G 39 0 (i))) = some (vI vz)) ∧ Inv w.1.2 G G
      refine ⟨⟨by rw [iQ.2.2.2 i c2.1 c2.2], _, rfl⟩, iL, iP, iS, iF, iO, iE, iT, iR, iB, iX, iH, iG, iQ, iN, iA, iJ⟩
    · intro m1 m2
      replace m1 : i ≠ -1 := m1
      replace m2 : ¬ (0 ≤ i ∧ i < (gF G 12 (0) 93)) := m2
      exfalso; omega
  · intro c1 c2
    refine sp_X12_found (d := d + 1000) (by first | assumption | exact mhf | omega) ?_ ?_ ?_
    · intro m1
      replace m1 : i = -1 := m1
      exfalso; omega
    · intro m1 m2
      replace m1 : i ≠ -1 := m1
      replace m2 : (0 ≤ i ∧ i < (gF G 12 (0) 93)) := m2
      exfalso; omega
    · intro m1 m2
      replace m1 : i ≠ -1 := m1
      replace m2 : ¬ (0 ≤ i ∧ i < (gF G 12 (0) 93)) := m2
      exact ⟨⟨rfl, _, rfl⟩, iL, iP, iS, iF, iO, iE, iT, iR, iB, iX, iH, iG, iQ, iN, iA, iJ⟩
set_option maxRecDepth 10000 in
theorem call_round {l : Launch} {w : Wo} {d : Nat} {G : PH} (hI : Inv w.1.2 G G) {a : Int} {b : Int} : CallOk l w d M_X11_round M_X12_round [some (vR 11 (0)), some (vI (a)), some (vI (b))] [some (vR 12 (0)), some (vI (a)), some (vI (b))] G := by
  obtain ⟨iL, iP, iS, iF, iO, iE, iT, iR, iB, iX, iH, iG, iQ, iN, iA, iJ⟩ := hI
  have hz6 : 0 ≤ (gF G 6 0 2) ∧ (gF G 6 0 2) ≤ 6 := iN.1.2
  have e6 : (gF G 12 0 96) = (gF G 6 0 2) := iN.1.1
  have mhz6 : 0 ≤ (gF G 12 0 96) ∧ (gF G 12 0 96) ≤ 6 := by omega
  have hz4 : 0 ≤ (gF G 6 0 4) ∧ (gF G 6 0 4) ≤ 4 := iN.2.2.1.2
  have e4 : (gF G 12 0 98) = (gF G 6 0 4) := iN.2.2.1.1
  have mhz4 : 0 ≤ (gF G 12 0 98) ∧ (gF G 12 0 98) ≤ 4 := by omega
  have ho : (gF G 6 0 8) ≤ 6 := iN.2.2.2.2.1.2.2
  have eo : (gF G 12 0 101) = (gF G 6 0 8) := iN.2.2.2.2.1.1
  have mho : (gF G 12 0 101) ≤ 6 := by omega
  unfold CallOk CallPhi
  refine sp_X11_round (d := d + 998) (by first | assumption | exact hz6 | omega) ?_ ?_ ?_
  · intro c1
    refine sp_X12_round (d := d + 999) (by first | assumption | exact mhz6 | omega) ?_ ?_ ?_
    · intro m1
      replace m1 : ¬ ((0 ≤ a ∧ a ≤ 99) ∧ 0 ≤ b ∧ b ≤ 99) := m1
      exact ⟨⟨rfl, _, rfl⟩, iL, iP, iS, iF, iO, iE, iT, iR, iB, iX, iH, iG, iQ, iN, iA, iJ⟩
    · intro m1 m2
      replace m1 : (((0 ≤ a ∧ a ≤ 99) ∧ 0 ≤ b ∧ b ≤ 99)) := m1
      replace m2 : (6 ≤ (gF G 12 (0) 96)) := m2
      exfalso; omega
    · intro m1 m2
      replace m1 : (((0 ≤ a ∧ a ≤ 99) ∧ 0 ≤ b ∧ b ≤ 99)) := m1
      replace m2 : (¬ (6 ≤ (gF G 12 (0) 96))) := m2
      exfalso; omega
  · intro c1 c2
    refine sp_X12_round (d := d + 999) (by first | assumption | exact mhz6 | omega) ?_ ?_ ?_
    · intro m1
      replace m1 : ¬ ((0 ≤ a ∧ a ≤ 99) ∧ 0 ≤ b ∧ b ≤ 99) := m1
      exfalso; omega
    · intro m1 m2
      replace m1 : (((0 ≤ a ∧ a ≤ 99) ∧ 0 ≤ b ∧ b ≤ 99)) := m1
      replace m2 : (6 ≤ (gF G 12 (0) 96)) := m2
      exact ⟨⟨rfl, _, rfl⟩, iL, iP, iS, iF, iO, iE, iT, iR, iB, iX, iH, iG, iQ, iN, iA, iJ⟩
    · intro m1 m2
      replace m1 : (((0 ≤ a ∧ a ≤ 99) ∧ 0 ≤ b ∧ b ≤ 99)) := m1
      replace m2 : (¬ (6 ≤ (gF G 12 (0) 96))) := m2
      exfalso; omega
  · intro c1 c2
    refine sp_X12_round (d := d + 999) (by first | assumption | exact mhz6 | omega) ?_ ?_ ?_
    · intro m1
      replace m1 : ¬ ((0 ≤ a ∧ a ≤ 99) ∧ 0 ≤ b ∧ b ≤ 99) := m1
      exfalso; omega
    · intro m1 m2
      replace m1 : (((0 ≤ a ∧ a ≤ 99) ∧ 0 ≤ b ∧ b ≤ 99)) := m1
      replace m2 : (6 ≤ (gF G 12 (0) 96)) := m2
      exfalso; omega
    · intro m1 m2
      replace m1 : (((0 ≤ a ∧ a ≤ 99) ∧ 0 ≤ b ∧ b ≤ 99)) := m1
      replace m2 : (¬ (6 ≤ (gF G 12 (0) 96))) := m2
      show (some (vI ((gF G 12 (0) 96) + 1)) = some (vI ((gF G 6 0 2) + 1)) ∧ ∃ vz, some (vI ((gF G 6 0 2) + 1)) = some (vI vz)) ∧ Inv w.1.2 (sF (sA (sA (sF (sA (sA G 60 (0) ((gF G 6 0 2)) (a)) 61 (0) ((gF G 6 0 2)) (b)) 6 (0) 2 ((gF G 6 0 2) + 1)) 264 (0) ((gF G 12 (0) 96)) (a)) 265 (0) ((gF G 12 (0) 96)) (b)) 12 (0) 96 ((gF G 12 (0) 96) + 1)) (sF (sA (sA (sF (sA (sA G 60 (0) ((gF G 6 0 2)) (a)) 61 (0) ((gF G 6 0 2)) (b)) 6 (0) 2 ((gF G 6 0 2) + 1)) 264 (0) ((gF G 12 (0) 96)) (a)) 265 (0) ((gF G 12 (0) 96)) (b)) 12 (0) 96 ((gF G 12 (0) 96) + 1))
      refine ⟨⟨by rw [e6], _, rfl⟩, iL, iP, iS, iF, iO, iE, iT, iR, iB, iX, iH, iG, iQ, ?_, iA, iJ⟩
      refine ⟨by simp only [gF_sF, gF_sA, gF_uA, gF_sD, gA_sF, gA_sA, gA_uA, gA_sD, gD_sF, gD_sA, gD_uA, gD_sD, Nat.reduceEqDiff, reduceCtorEq, false_and, and_false, true_and, and_true, ite_true, ite_false, if_true, if_false, ↓reduceIte, and_self]; omega, ?_, iN.2.2⟩
      simp only [gF_sF, gF_sA, gF_uA, gF_sD, gA_sF, gA_sA, gA_uA, gA_sD, gD_sF, gD_sA, gD_uA, gD_sD, Nat.reduceEqDiff, reduceCtorEq, false_and, and_false, true_and, and_true, ite_true, ite_false, if_true, if_false, ↓reduceIte, and_self]
      refine all_s (fun i x y => ?_) ?_
      · have e : i ≠ (gF G 6 0 2) := by omega
        simp only [gF_sF, gF_sA, gF_uA, gF_sD, gA_sF, gA_sA, gA_uA, gA_sD, gD_sF, gD_sA, gD_uA, gD_sD, Nat.reduceEqDiff, reduceCtorEq, false_and, and_false, true_and, and_true, ite_true, ite_false, if_true, if_false, ↓reduceIte, and_self, e, e6]
        exact iN.2.1 i x y
      · simp only [gF_sF, gF_sA, gF_uA, gF_sD, gA_sF, gA_sA, gA_uA, gA_sD, gD_sF, gD_sA, gD_uA, gD_sD, Nat.reduceEqDiff, reduceCtorEq, false_and, and_false, true_and, and_true, ite_true, ite_false, if_true, if_false, ↓reduceIte, and_self, e6]
        omega
set_option maxRecDepth 10000 in
theorem call_aim {l : Launch} {w : Wo} {d : Nat} {G : PH} (hI : Inv w.1.2 G G) {v : Int} : CallOk l w d M_X11_aim M_X12_aim [some (vR 11 (0)), some (vI (v))] [some (vR 12 (0)), some (vI (v))] G := by
  obtain ⟨iL, iP, iS, iF, iO, iE, iT, iR, iB, iX, iH, iG, iQ, iN, iA, iJ⟩ := hI
  have hz6 : 0 ≤ (gF G 6 0 2) ∧ (gF G 6 0 2) ≤ 6 := iN.1.2
  have e6 : (gF G 12 0 96) = (gF G 6 0 2) := iN.1.1
  have mhz6 : 0 ≤ (gF G 12 0 96) ∧ (gF G 12 0 96) ≤ 6 := by omega
  have hz4 : 0 ≤ (gF G 6 0 4) ∧ (gF G 6 0 4) ≤ 4 := iN.2.2.1.2
  have e4 : (gF G 12 0 98) = (gF G 6 0 4) := iN.2.2.1.1
  have mhz4 : 0 ≤ (gF G 12 0 98) ∧ (gF G 12 0 98) ≤ 4 := by omega
  have ho : (gF G 6 0 8) ≤ 6 := iN.2.2.2.2.1.2.2
  have eo : (gF G 12 0 101) = (gF G 6 0 8) := iN.2.2.2.2.1.1
  have mho : (gF G 12 0 101) ≤ 6 := by omega
  unfold CallOk CallPhi
  refine sp_X11_aim (d := d + 998) (by first | assumption | exact hz4 | omega) ?_ ?_ ?_
  · intro c1
    refine sp_X12_aim (d := d + 999) (by first | assumption | exact mhz4 | omega) ?_ ?_ ?_
    · intro m1
      replace m1 : ¬ (1 ≤ v ∧ v ≤ 999) := m1
      exact ⟨⟨rfl, _, rfl⟩, iL, iP, iS, iF, iO, iE, iT, iR, iB, iX, iH, iG, iQ, iN, iA, iJ⟩
    · intro m1 m2
      replace m1 : ((1 ≤ v ∧ v ≤ 999)) := m1
      replace m2 : (4 ≤ (gF G 12 (0) 98)) := m2
      exfalso; omega
    · intro m1 m2
      replace m1 : ((1 ≤ v ∧ v ≤ 999)) := m1
      replace m2 : (¬ (4 ≤ (gF G 12 (0) 98))) := m2
      exfalso; omega
  · intro c1 c2
    refine sp_X12_aim (d := d + 999) (by first | assumption | exact mhz4 | omega) ?_ ?_ ?_
    · intro m1
      replace m1 : ¬ (1 ≤ v ∧ v ≤ 999) := m1
      exfalso; omega
    · intro m1 m2
      replace m1 : ((1 ≤ v ∧ v ≤ 999)) := m1
      replace m2 : (4 ≤ (gF G 12 (0) 98)) := m2
      exact ⟨⟨rfl, _, rfl⟩, iL, iP, iS, iF, iO, iE, iT, iR, iB, iX, iH, iG, iQ, iN, iA, iJ⟩
    · intro m1 m2
      replace m1 : ((1 ≤ v ∧ v ≤ 999)) := m1
      replace m2 : (¬ (4 ≤ (gF G 12 (0) 98))) := m2
      exfalso; omega
  · intro c1 c2
    refine sp_X12_aim (d := d + 999) (by first | assumption | exact mhz4 | omega) ?_ ?_ ?_
    · intro m1
      replace m1 : ¬ (1 ≤ v ∧ v ≤ 999) := m1
      exfalso; omega
    · intro m1 m2
      replace m1 : ((1 ≤ v ∧ v ≤ 999)) := m1
      replace m2 : (4 ≤ (gF G 12 (0) 98)) := m2
      exfalso; omega
    · intro m1 m2
      replace m1 : ((1 ≤ v ∧ v ≤ 999)) := m1
      replace m2 : (¬ (4 ≤ (gF G 12 (0) 98))) := m2
      show (some (vI ((gF G 12 (0) 98) + 1)) = some (vI ((gF G 6 0 4) + 1)) ∧ ∃ vz, some (vI ((gF G 6 0 4) + 1)) = some (vI vz)) ∧ Inv w.1.2 (sF (sA (sF (sA G 62 (0) ((gF G 6 0 4)) (v)) 6 (0) 4 ((gF G 6 0 4) + 1)) 266 (0) ((gF G 12 (0) 98)) (v)) 12 (0) 98 ((gF G 12 (0) 98) + 1)) (sF (sA (sF (sA G 62 (0) ((gF G 6 0 4)) (v)) 6 (0) 4 ((gF G 6 0 4) + 1)) 266 (0) ((gF G 12 (0) 98)) (v)) 12 (0) 98 ((gF G 12 (0) 98) + 1))
      refine ⟨⟨by rw [e4], _, rfl⟩, iL, iP, iS, iF, iO, iE, iT, iR, iB, iX, iH, iG, iQ, ?_, iA, iJ⟩
      refine ⟨iN.1, iN.2.1, by simp only [gF_sF, gF_sA, gF_uA, gF_sD, gA_sF, gA_sA, gA_uA, gA_sD, gD_sF, gD_sA, gD_uA, gD_sD, Nat.reduceEqDiff, reduceCtorEq, false_and, and_false, true_and, and_true, ite_true, ite_false, if_true, if_false, ↓reduceIte, and_self]; omega, ?_, iN.2.2.2.2⟩
      simp only [gF_sF, gF_sA, gF_uA, gF_sD, gA_sF, gA_sA, gA_uA, gA_sD, gD_sF, gD_sA, gD_uA, gD_sD, Nat.reduceEqDiff, reduceCtorEq, false_and, and_false, true_and, and_true, ite_true, ite_false, if_true, if_false, ↓reduceIte, and_self]
      refine all_s (fun i a b => ?_) ?_
      · have e : i ≠ (gF G 6 0 4) := by omega
        simp only [gF_sF, gF_sA, gF_uA, gF_sD, gA_sF, gA_sA, gA_uA, gA_sD, gD_sF, gD_sA, gD_uA, gD_sD, Nat.reduceEqDiff, reduceCtorEq, false_and, and_false, true_and, and_true, ite_true, ite_false, if_true, if_false, ↓reduceIte, and_self, e, e4]
        exact iN.2.2.2.1 i a b
      · simp only [gF_sF, gF_sA, gF_uA, gF_sD, gA_sF, gA_sA, gA_uA, gA_sD, gD_sF, gD_sA, gD_uA, gD_sD, Nat.reduceEqDiff, reduceCtorEq, false_and, and_false, true_and, and_true, ite_true, ite_false, if_true, if_false, ↓reduceIte, and_self, e4]
set_option maxRecDepth 10000 in
theorem call_ordered {l : Launch} {w : Wo} {d : Nat} {G : PH} (hI : Inv w.1.2 G G) {i : Int} : CallOk l w d M_X11_ordered M_X12_ordered [some (vR 11 (0)), some (vI (i))] [some (vR 12 (0)), some (vI (i))] G := by
  obtain ⟨iL, iP, iS, iF, iO, iE, iT, iR, iB, iX, iH, iG, iQ, iN, iA, iJ⟩ := hI
  have hz6 : 0 ≤ (gF G 6 0 2) ∧ (gF G 6 0 2) ≤ 6 := iN.1.2
  have e6 : (gF G 12 0 96) = (gF G 6 0 2) := iN.1.1
  have mhz6 : 0 ≤ (gF G 12 0 96) ∧ (gF G 12 0 96) ≤ 6 := by omega
  have hz4 : 0 ≤ (gF G 6 0 4) ∧ (gF G 6 0 4) ≤ 4 := iN.2.2.1.2
  have e4 : (gF G 12 0 98) = (gF G 6 0 4) := iN.2.2.1.1
  have mhz4 : 0 ≤ (gF G 12 0 98) ∧ (gF G 12 0 98) ≤ 4 := by omega
  have ho : (gF G 6 0 8) ≤ 6 := iN.2.2.2.2.1.2.2
  have eo : (gF G 12 0 101) = (gF G 6 0 8) := iN.2.2.2.2.1.1
  have mho : (gF G 12 0 101) ≤ 6 := by omega
  unfold CallOk CallPhi
  refine sp_X11_ordered (d := d + 999) (by first | assumption | exact ho | omega) ?_ ?_
  · intro c1
    refine sp_X12_ordered (d := d + 1000) (by first | assumption | exact mho | omega) ?_ ?_
    · intro m1
      replace m1 : ¬ (0 ≤ i ∧ i < (gF G 12 (0) 101)) := m1
      exact ⟨⟨rfl, _, rfl⟩, iL, iP, iS, iF, iO, iE, iT, iR, iB, iX, iH, iG, iQ, iN, iA, iJ⟩
    · intro m1
      replace m1 : (0 ≤ i ∧ i < (gF G 12 (0) 101)) := m1
      exfalso; omega
  · intro c1
    refine sp_X12_ordered (d := d + 1000) (by first | assumption | exact mho | omega) ?_ ?_
    · intro m1
      replace m1 : ¬ (0 ≤ i ∧ i < (gF G 12 (0) 101)) := m1
      exfalso; omega
    · intro m1
      replace m1 : (0 ≤ i ∧ i < (gF G 12 (0) 101)) := m1
      show (some (vI (gA G 268 (0) (i))) = some (vI (gA G 64 0 (i))) ∧ ∃ vz, some (vI (gA G 64 0 (i))) = some (vI vz)) ∧ Inv w.1.2 G G
      refine ⟨⟨by rw [iN.2.2.2.2.2 i c1.1 c1.2], _, rfl⟩, iL, iP, iS, iF, iO, iE, iT, iR, iB, iX, iH, iG, iQ, iN, iA, iJ⟩
set_option maxRecDepth 10000 in
theorem call_trace {l : Launch} {w : Wo} {d : Nat} {G : PH} (hI : Inv w.1.2 G G) {i : Int} : CallOk l w d M_X11_trace M_X12_trace [some (vR 11 (0)), some (vI (i))] [some (vR 12 (0)), some (vI (i))] G := by
  obtain ⟨iL, iP, iS, iF, iO, iE, iT, iR, iB, iX, iH, iG, iQ, iN, iA, iJ⟩ := hI
  have hk : (gF G 1 0 17) ≤ 24 := by have := iA.1.2; omega
  have hk2 := iA.1
  unfold CallOk CallPhi
  refine sp_X11_trace (d := d + 999) (by first | assumption | exact hk | omega) ?_ ?_
  · intro c1
    refine sp_X12_trace (d := d + 1000)  ?_ ?_
    · intro m1
      replace m1 : ¬ (0 ≤ i ∧ i < (gF G 12 (0) 104) ∧ i < 24) := m1
      exact ⟨⟨rfl, _, rfl⟩, iL, iP, iS, iF, iO, iE, iT, iR, iB, iX, iH, iG, iQ, iN, iA, iJ⟩
    · intro m1
      replace m1 : (0 ≤ i ∧ i < (gF G 12 (0) 104) ∧ i < 24) := m1
      exfalso; omega
  · intro c1
    refine sp_X12_trace (d := d + 1000)  ?_ ?_
    · intro m1
      replace m1 : ¬ (0 ≤ i ∧ i < (gF G 12 (0) 104) ∧ i < 24) := m1
      exfalso; omega
    · intro m1
      replace m1 : (0 ≤ i ∧ i < (gF G 12 (0) 104) ∧ i < 24) := m1
      show (some (vI (gA G 269 (0) (i))) = some (vI (gA G 40 0 (i))) ∧ ∃ vz, some (vI (gA G 40 0 (i))) = some (vI vz)) ∧ Inv w.1.2 G G
      refine ⟨⟨by rw [iA.2 i c1.1 c1.2], _, rfl⟩, iL, iP, iS, iF, iO, iE, iT, iR, iB, iX, iH, iG, iQ, iN, iA, iJ⟩
