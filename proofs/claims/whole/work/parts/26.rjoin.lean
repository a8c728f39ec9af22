theorem wordOk_congr {g n : Int} {lt lt1 : Int → Int} (h : wordOk g n lt) (e : ∀ j, lt1 j = lt j) : wordOk g n lt1 := by
  rw [show lt1 = lt from funext e]
  exact h
theorem go_eq {X Y : PH} (iR : IRow X Y) (iB : ITab X Y) {t i j : Int} (ht : 0 ≤ t ∧ t < 4) (hj : 0 ≤ j) : goM Y t i j ↔ goC X t i j := by
  have h := iB.2 t ht.1 ht.2
  have e1 := iR.1.1
  have e2 := iB.1
  unfold goM goC
  rw [e1, h.2.1.1]
  refine and_congr_right fun a => and_congr_right fun b => and_congr_right fun _ => ?_
  unfold goodM goodC
  have h1 := (h.2.2 (i + 3 * j) (by omega) (by omega)).1
  have h2 := (h.2.2 (i + 3 * j + 1) (by omega) (by omega)).1
  have h3 := (h.2.2 (i + 3 * j + 2) (by omega) (by omega)).1
  rw [show 60 * t + (i + 3 * j) + 1 = 60 * t + (i + 3 * j + 1) by omega, show 60 * t + (i + 3 * j) + 2 = 60 * t + (i + 3 * j + 2) by omega, h1, h2, h3, e2]
theorem stop_one {p : Int → Prop} {n k k1 : Int} (hk : 0 ≤ k ∧ k ≤ n) (hk1 : 0 ≤ k1 ∧ k1 ≤ n) (h : ∀ j, 0 ≤ j → j < k → p j) (h1 : ∀ j, 0 ≤ j → j < k1 → p j) (s : k = n ∨ ¬ p k) (s1 : k1 = n ∨ ¬ p k1) : k1 = k := by
  rcases Int.lt_trichotomy k k1 with q | q | q
  · rcases s with s | s
    · omega
    · exact absurd (h1 k hk.1 q) s
  · exact q.symm
  · rcases s1 with s | s
    · omega
    · exact absurd (h k1 hk1.1 q) s




set_option maxRecDepth 10000 in
theorem call_row {l : Launch} {w : Wo} {d : Nat} {G : PH} (hI : Inv w.1.2 G G) {s : Int} {g : Int} {a : Int} {u : Int} : CallOk l w d M_X11_row M_X12_row [some (vR 11 (0)), some (vI (s)), some (vI (g)), some (vI (a)), some (vI (u))] [some (vR 12 (0)), some (vI (s)), some (vI (g)), some (vI (a)), some (vI (u))] G := by
  obtain ⟨iL, iP, iS, iF, iO, iE, iT, iR, iB, iX, iH, iG, iQ, iN, iA, iJ⟩ := hI
  have hrw : 0 ≤ (gF G 5 0 0) ∧ (gF G 5 0 0) ≤ 100 := iR.1.2
  have er : (gF G 12 0 55) = (gF G 5 0 0) := iR.1.1
  have mhrw : 0 ≤ (gF G 12 0 55) ∧ (gF G 12 0 55) ≤ 100 := by omega
  unfold CallOk CallPhi
  refine sp_X11_row (d := d + 998) (by first | assumption | exact hrw | omega) ?_ ?_ ?_
  · intro c1
    refine sp_X12_row (d := d + 998) (by first | assumption | exact mhrw | omega) ?_ ?_ ?_
    · intro m1
      replace m1 : ¬ ((0 ≤ s ∧ s ≤ 1) ∧ (∃ n, 0 ≤ n ∧ n ≤ 5 ∧ WordN g n) ∧ (-1 ≤ a ∧ a ≤ 99) ∧ -1 ≤ u ∧ u ≤ 99) := m1
      exact ⟨⟨rfl, _, rfl⟩, iL, iP, iS, iF, iO, iE, iT, iR, iB, iX, iH, iG, iQ, iN, iA, iJ⟩
    · intro m1 m2
      replace m1 : (((0 ≤ s ∧ s ≤ 1) ∧ (∃ n, 0 ≤ n ∧ n ≤ 5 ∧ WordN g n) ∧ (-1 ≤ a ∧ a ≤ 99) ∧ -1 ≤ u ∧ u ≤ 99)) := m1
      replace m2 : ((gF G 12 (0) 55) = 100) := m2
      show (some (vI (-2)) = some (vI (-1)) ∧ ∃ vz, some (vI (-1)) = some (vI vz)) ∧ Inv w.1.2 G G
      exact absurd m1 c1
    · intro m1 m2
      replace m1 : (((0 ≤ s ∧ s ≤ 1) ∧ (∃ n, 0 ≤ n ∧ n ≤ 5 ∧ WordN g n) ∧ (-1 ≤ a ∧ a ≤ 99) ∧ -1 ≤ u ∧ u ≤ 99)) := m1
      replace m2 : ((gF G 12 (0) 55) < 100) := m2
      show (some (vI (gF G 12 (0) 55)) = some (vI (-1)) ∧ ∃ vz, some (vI (-1)) = some (vI vz)) ∧ Inv w.1.2 (sF (sA (sA (sA (sA G 236 (0) ((gF G 12 (0) 55)) (s)) 237 (0) ((gF G 12 (0) 55)) (g)) 238 (0) ((gF G 12 (0) 55)) (a)) 239 (0) ((gF G 12 (0) 55)) (u)) 12 (0) 55 ((gF G 12 (0) 55) + 1)) (sF (sA (sA (sA (sA G 236 (0) ((gF G 12 (0) 55)) (s)) 237 (0) ((gF G 12 (0) 55)) (g)) 238 (0) ((gF G 12 (0) 55)) (a)) 239 (0) ((gF G 12 (0) 55)) (u)) 12 (0) 55 ((gF G 12 (0) 55) + 1))
      exact absurd m1 c1
  · intro c1 c2
    refine sp_X12_row (d := d + 998) (by first | assumption | exact mhrw | omega) ?_ ?_ ?_
    · intro m1
      replace m1 : ¬ ((0 ≤ s ∧ s ≤ 1) ∧ (∃ n, 0 ≤ n ∧ n ≤ 5 ∧ WordN g n) ∧ (-1 ≤ a ∧ a ≤ 99) ∧ -1 ≤ u ∧ u ≤ 99) := m1
      show (some (vI (-1)) = some (vI (-2)) ∧ ∃ vz, some (vI (-2)) = some (vI vz)) ∧ Inv w.1.2 G G
      exact absurd c1 m1
    · intro m1 m2
      replace m1 : (((0 ≤ s ∧ s ≤ 1) ∧ (∃ n, 0 ≤ n ∧ n ≤ 5 ∧ WordN g n) ∧ (-1 ≤ a ∧ a ≤ 99) ∧ -1 ≤ u ∧ u ≤ 99)) := m1
      replace m2 : ((gF G 12 (0) 55) = 100) := m2
      exact ⟨⟨rfl, _, rfl⟩, iL, iP, iS, iF, iO, iE, iT, iR, iB, iX, iH, iG, iQ, iN, iA, iJ⟩
    · intro m1 m2
      replace m1 : (((0 ≤ s ∧ s ≤ 1) ∧ (∃ n, 0 ≤ n ∧ n ≤ 5 ∧ WordN g n) ∧ (-1 ≤ a ∧ a ≤ 99) ∧ -1 ≤ u ∧ u ≤ 99)) := m1
      replace m2 : ((gF G 12 (0) 55) < 100) := m2
      exfalso; omega
  · intro c1 c2 n lt c3 c4
    refine sp_X12_row (d := d + 998) (by first | assumption | exact mhrw | omega) ?_ ?_ ?_
    · intro m1
      replace m1 : ¬ ((0 ≤ s ∧ s ≤ 1) ∧ (∃ n, 0 ≤ n ∧ n ≤ 5 ∧ WordN g n) ∧ (-1 ≤ a ∧ a ≤ 99) ∧ -1 ≤ u ∧ u ≤ 99) := m1
      show (some (vI (-1)) = some (vI (gF G 5 0 0)) ∧ ∃ vz, some (vI (gF G 5 0 0)) = some (vI vz)) ∧ Inv w.1.2 (sF (sA (sA (sA (sA (uA G 49 ((gF G 5 0 0)) (lt)) 50 (0) ((gF G 5 0 0)) (n)) 47 (0) ((gF G 5 0 0)) (s)) 51 (0) ((gF G 5 0 0)) (a)) 52 (0) ((gF G 5 0 0)) (u)) 5 (0) 0 ((gF G 5 0 0) + 1)) (sF (sA (sA (sA (sA (uA G 49 ((gF G 5 0 0)) (lt)) 50 (0) ((gF G 5 0 0)) (n)) 47 (0) ((gF G 5 0 0)) (s)) 51 (0) ((gF G 5 0 0)) (a)) 52 (0) ((gF G 5 0 0)) (u)) 5 (0) 0 ((gF G 5 0 0) + 1))
      exact absurd c1 m1
    · intro m1 m2
      replace m1 : (((0 ≤ s ∧ s ≤ 1) ∧ (∃ n, 0 ≤ n ∧ n ≤ 5 ∧ WordN g n) ∧ (-1 ≤ a ∧ a ≤ 99) ∧ -1 ≤ u ∧ u ≤ 99)) := m1
      replace m2 : ((gF G 12 (0) 55) = 100) := m2
      exfalso; omega
    · intro m1 m2
      replace m1 : (((0 ≤ s ∧ s ≤ 1) ∧ (∃ n, 0 ≤ n ∧ n ≤ 5 ∧ WordN g n) ∧ (-1 ≤ a ∧ a ≤ 99) ∧ -1 ≤ u ∧ u ≤ 99)) := m1
      replace m2 : ((gF G 12 (0) 55) < 100) := m2
      show (some (vI (gF G 12 (0) 55)) = some (vI (gF G 5 0 0)) ∧ ∃ vz, some (vI (gF G 5 0 0)) = some (vI vz)) ∧ Inv w.1.2 (sF (sA (sA (sA (sA (sF (sA (sA (sA (sA (uA G 49 ((gF G 5 0 0)) (lt)) 50 (0) ((gF G 5 0 0)) (n)) 47 (0) ((gF G 5 0 0)) (s)) 51 (0) ((gF G 5 0 0)) (a)) 52 (0) ((gF G 5 0 0)) (u)) 5 (0) 0 ((gF G 5 0 0) + 1)) 236 (0) ((gF G 12 (0) 55)) (s)) 237 (0) ((gF G 12 (0) 55)) (g)) 238 (0) ((gF G 12 (0) 55)) (a)) 239 (0) ((gF G 12 (0) 55)) (u)) 12 (0) 55 ((gF G 12 (0) 55) + 1)) (sF (sA (sA (sA (sA (sF (sA (sA (sA (sA (uA G 49 ((gF G 5 0 0)) (lt)) 50 (0) ((gF G 5 0 0)) (n)) 47 (0) ((gF G 5 0 0)) (s)) 51 (0) ((gF G 5 0 0)) (a)) 52 (0) ((gF G 5 0 0)) (u)) 5 (0) 0 ((gF G 5 0 0) + 1)) 236 (0) ((gF G 12 (0) 55)) (s)) 237 (0) ((gF G 12 (0) 55)) (g)) 238 (0) ((gF G 12 (0) 55)) (a)) 239 (0) ((gF G 12 (0) 55)) (u)) 12 (0) 55 ((gF G 12 (0) 55) + 1))
      refine ⟨⟨by rw [er], _, rfl⟩, iL, iP, iS, iF, iO, iE, iT, ?_, iB, iX, iH, iG, iQ, iN, iA, iJ⟩
      refine ⟨by simp only [gF_sF, gF_sA, gF_uA, gF_sD, gA_sF, gA_sA, gA_uA, gA_sD, gD_sF, gD_sA, gD_uA, gD_sD, Nat.reduceEqDiff, reduceCtorEq, false_and, and_false, true_and, and_true, ite_true, ite_false, if_true, if_false, ↓reduceIte, and_self]; omega, ?_, iR.2.2⟩
      simp only [gF_sF, gF_sA, gF_uA, gF_sD, gA_sF, gA_sA, gA_uA, gA_sD, gD_sF, gD_sA, gD_uA, gD_sD, Nat.reduceEqDiff, reduceCtorEq, false_and, and_false, true_and, and_true, ite_true, ite_false, if_true, if_false, ↓reduceIte, and_self]
      refine all_s (fun r x y => ?_) ?_
      · have e : r ≠ (gF G 5 0 0) := by omega
        have h := iR.2.1 r x y
        simp only [gF_sF, gF_sA, gF_uA, gF_sD, gA_sF, gA_sA, gA_uA, gA_sD, gD_sF, gD_sA, gD_uA, gD_sD, Nat.reduceEqDiff, reduceCtorEq, false_and, and_false, true_and, and_true, ite_true, ite_false, if_true, if_false, ↓reduceIte, and_self, e, er]
        exact ⟨h.1, wordOk_congr h.2.1 (fun j => by simp only [gF_sF, gF_sA, gF_uA, gF_sD, gA_sF, gA_sA, gA_uA, gA_sD, gD_sF, gD_sA, gD_uA, gD_sD, Nat.reduceEqDiff, reduceCtorEq, false_and, and_false, true_and, and_true, ite_true, ite_false, if_true, if_false, ↓reduceIte, and_self, e]), h.2.2⟩
      · simp only [gF_sF, gF_sA, gF_uA, gF_sD, gA_sF, gA_sA, gA_uA, gA_sD, gD_sF, gD_sA, gD_uA, gD_sD, Nat.reduceEqDiff, reduceCtorEq, false_and, and_false, true_and, and_true, ite_true, ite_false, if_true, if_false, ↓reduceIte, and_self, er]
        refine ⟨by omega, word_ok ⟨c3.1, c3.2.1⟩ c3.2.2 (fun j x y => ?_), by omega⟩
        simp only [gF_sF, gF_sA, gF_uA, gF_sD, gA_sF, gA_sA, gA_uA, gA_sD, gD_sF, gD_sA, gD_uA, gD_sD, Nat.reduceEqDiff, reduceCtorEq, false_and, and_false, true_and, and_true, ite_true, ite_false, if_true, if_false, ↓reduceIte, and_self]
        exact c4 j x y
set_option maxRecDepth 10000 in
theorem call_list {l : Launch} {w : Wo} {d : Nat} {G : PH} (hI : Inv w.1.2 G G) {s : Int} {t : Int} {i : Int} {n : Int} : CallOk l w d M_X11_list M_X12_list [some (vR 11 (0)), some (vI (s)), some (vI (t)), some (vI (i)), some (vI (n))] [some (vR 12 (0)), some (vI (s)), some (vI (t)), some (vI (i)), some (vI (n)), none, none, none, none, none, none, none, none] G := by
  obtain ⟨iL, iP, iS, iF, iO, iE, iT, iR, iB, iX, iH, iG, iQ, iN, iA, iJ⟩ := hI
  have hrw : 0 ≤ (gF G 5 0 0) ∧ (gF G 5 0 0) ≤ 100 := iR.1.2
  have er : (gF G 12 0 55) = (gF G 5 0 0) := iR.1.1
  have mhrw : 0 ≤ (gF G 12 0 55) ∧ (gF G 12 0 55) ≤ 100 := by omega
  have hts : ∀ t, 0 ≤ t → t < 4 → (-1 ≤ (gA G 58 0 (t)) ∧ (gA G 58 0 (t)) ≤ 1) ∧ 0 ≤ (gA G 59 0 (t)) ∧ (gA G 59 0 (t)) ≤ 60 := fun t a b => by have := iB.2 t a b; omega
  have mhts : ∀ t, 0 ≤ t → t < 4 → (-1 ≤ (gA G 270 0 (t)) ∧ (gA G 270 0 (t)) ≤ 1) ∧ 0 ≤ (gA G 271 0 (t)) ∧ (gA G 271 0 (t)) ≤ 60 := fun t a b => by have := iB.2 t a b; omega
  have htt : (0 ≤ t ∧ t ≤ 3) → (gA G 270 0 (t)) = (gA G 58 0 (t)) ∧ (gA G 271 0 (t)) = (gA G 59 0 (t)) ∧ 0 ≤ (gA G 59 0 (t)) ∧ (gA G 59 0 (t)) ≤ 60 := fun h => by have := iB.2 t h.1 (by omega); omega
  unfold CallOk CallPhi
  refine sp_X11_list (d := d + 996) (by first | assumption | exact hrw | omega) (by first | assumption | exact hts | omega) ?_ ?_ ?_
  · intro c1
    refine sp_X12_list (d := d + 998) (by first | assumption | exact mhrw | omega) (by first | assumption | exact mhts | omega) ?_ ?_ ?_
    · intro m1
      replace m1 : ¬ ((0 ≤ s ∧ s ≤ 1) ∧ (0 ≤ t ∧ t ≤ 3) ∧ 1 ≤ n ∧ n ≤ 20) := m1
      exact ⟨⟨rfl, _, rfl⟩, iL, iP, iS, iF, iO, iE, iT, iR, iB, iX, iH, iG, iQ, iN, iA, iJ⟩
    · intro m1 m2
      replace m1 : ((0 ≤ s ∧ s ≤ 1) ∧ (0 ≤ t ∧ t ≤ 3) ∧ 1 ≤ n ∧ n ≤ 20) := m1
      replace m2 : ((gA G 270 (0) (t)) ≠ 1) := m2
      exfalso; omega
    · intro m1 m2 k2 sd2 wd2 ag2 un2 m3 m4 m5 m6
      replace m1 : ((0 ≤ s ∧ s ≤ 1) ∧ (0 ≤ t ∧ t ≤ 3) ∧ 1 ≤ n ∧ n ≤ 20) := m1
      replace m2 : ((gA G 270 (0) (t)) = 1) := m2
      replace m3 : (0 ≤ k2 ∧ k2 ≤ n) := m3
      replace m4 : (∀ j, 0 ≤ j → j < k2 → goM G t i j) := m4
      replace m5 : (k2 = n ∨ ¬ goM G t i k2) := m5
      replace m6 : ListM G t i s k2 sd2 wd2 ag2 un2 := m6
      exfalso; omega
  · intro c1 c2
    refine sp_X12_list (d := d + 998) (by first | assumption | exact mhrw | omega) (by first | assumption | exact mhts | omega) ?_ ?_ ?_
    · intro m1
      replace m1 : ¬ ((0 ≤ s ∧ s ≤ 1) ∧ (0 ≤ t ∧ t ≤ 3) ∧ 1 ≤ n ∧ n ≤ 20) := m1
      exfalso; omega
    · intro m1 m2
      replace m1 : ((0 ≤ s ∧ s ≤ 1) ∧ (0 ≤ t ∧ t ≤ 3) ∧ 1 ≤ n ∧ n ≤ 20) := m1
      replace m2 : ((gA G 270 (0) (t)) ≠ 1) := m2
      exact ⟨⟨rfl, _, rfl⟩, iL, iP, iS, iF, iO, iE, iT, iR, iB, iX, iH, iG, iQ, iN, iA, iJ⟩
    · intro m1 m2 k2 sd2 wd2 ag2 un2 m3 m4 m5 m6
      replace m1 : ((0 ≤ s ∧ s ≤ 1) ∧ (0 ≤ t ∧ t ≤ 3) ∧ 1 ≤ n ∧ n ≤ 20) := m1
      replace m2 : ((gA G 270 (0) (t)) = 1) := m2
      replace m3 : (0 ≤ k2 ∧ k2 ≤ n) := m3
      replace m4 : (∀ j, 0 ≤ j → j < k2 → goM G t i j) := m4
      replace m5 : (k2 = n ∨ ¬ goM G t i k2) := m5
      replace m6 : ListM G t i s k2 sd2 wd2 ag2 un2 := m6
      exfalso; omega
  · intro c1 c2 k L ln sd ag un c3 c4 c5 c6
    refine sp_X12_list (d := d + 998) (by first | assumption | exact mhrw | omega) (by first | assumption | exact mhts | omega) ?_ ?_ ?_
    · intro m1
      replace m1 : ¬ ((0 ≤ s ∧ s ≤ 1) ∧ (0 ≤ t ∧ t ≤ 3) ∧ 1 ≤ n ∧ n ≤ 20) := m1
      exfalso; omega
    · intro m1 m2
      replace m1 : ((0 ≤ s ∧ s ≤ 1) ∧ (0 ≤ t ∧ t ≤ 3) ∧ 1 ≤ n ∧ n ≤ 20) := m1
      replace m2 : ((gA G 270 (0) (t)) ≠ 1) := m2
      exfalso; omega
    · intro m1 m2 k2 sd2 wd2 ag2 un2 m3 m4 m5 m6
      replace m1 : ((0 ≤ s ∧ s ≤ 1) ∧ (0 ≤ t ∧ t ≤ 3) ∧ 1 ≤ n ∧ n ≤ 20) := m1
      replace m2 : ((gA G 270 (0) (t)) = 1) := m2
      replace m3 : (0 ≤ k2 ∧ k2 ≤ n) := m3
      replace m4 : (∀ j, 0 ≤ j → j < k2 → goM (sF (uA (uA (uA (uA (uK G 49 (L)) 50 (0) (ln)) 47 (0) (sd)) 51 (0) (ag)) 52 (0) (un)) 5 (0) 0 ((gF G 5 0 0) + k)) t i j) := m4
      replace m5 : (k2 = n ∨ ¬ goM (sF (uA (uA (uA (uA (uK G 49 (L)) 50 (0) (ln)) 47 (0) (sd)) 51 (0) (ag)) 52 (0) (un)) 5 (0) 0 ((gF G 5 0 0) + k)) t i k2) := m5
      replace m6 : ListM (sF (uA (uA (uA (uA (uK G 49 (L)) 50 (0) (ln)) 47 (0) (sd)) 51 (0) (ag)) 52 (0) (un)) 5 (0) 0 ((gF G 5 0 0) + k)) t i s k2 sd2 wd2 ag2 un2 := m6
      show (some (vI k2) = some (vI k) ∧ ∃ vz, some (vI k) = some (vI vz)) ∧ Inv w.1.2 (sF (uA (uA (uA (uA (sF (uA (uA (uA (uA (uK G 49 (L)) 50 (0) (ln)) 47 (0) (sd)) 51 (0) (ag)) 52 (0) (un)) 5 (0) 0 ((gF G 5 0 0) + k)) 236 (0) (sd2)) 237 (0) (wd2)) 238 (0) (ag2)) 239 (0) (un2)) 12 (0) 55 ((gF G 12 (0) 55) + k2)) (sF (uA (uA (uA (uA (sF (uA (uA (uA (uA (uK G 49 (L)) 50 (0) (ln)) 47 (0) (sd)) 51 (0) (ag)) 52 (0) (un)) 5 (0) 0 ((gF G 5 0 0) + k)) 236 (0) (sd2)) 237 (0) (wd2)) 238 (0) (ag2)) 239 (0) (un2)) 12 (0) 55 ((gF G 12 (0) 55) + k2))
      replace m6 : ListM G t i s k2 sd2 wd2 ag2 un2 := m6
      have hgo := fun j (hj : 0 ≤ j) => go_eq iR iB (t := t) (i := i) (j := j) ⟨c1.2.1.1, by omega⟩ hj
      have ek : k2 = k := stop_one (p := fun j => goC G t i j) c3 m3 c4 (fun j x y => (hgo j x).mp (m4 j x y)) c5 (m5.imp id (fun z q => z ((hgo k2 m3.1).mpr q)))
      subst ek
      refine ⟨⟨rfl, _, rfl⟩, iL, iP, iS, iF, iO, iE, iT, ?_, iB, iX, iH, iG, iQ, iN, iA, iJ⟩
      have hz : k2 = 0 ∨ goC G t i (k2 - 1) := by
        by_cases e : k2 = 0
        · exact Or.inl e
        · exact Or.inr (c4 (k2 - 1) (by omega) (by omega))
      refine ⟨?_, fun r x y => ?_, iR.2.2⟩
      · simp only [gF_sF, gF_sA, gF_uA, gF_sD, gA_sF, gA_sA, gA_uA, gA_sD, gD_sF, gD_sA, gD_uA, gD_sD, Nat.reduceEqDiff, reduceCtorEq, false_and, and_false, true_and, and_true, ite_true, ite_false, if_true, if_false, ↓reduceIte, and_self, er]
        refine ⟨by omega, ?_⟩
        rcases hz with e | e
        · omega
        · have := e.2.2.1; omega
      · replace y : r < (gF G 5 0 0) + k2 := y
        by_cases e : r < (gF G 5 0 0)
        · have h := iR.2.1 r x e
          obtain ⟨a1, a2, a3, a4, a5⟩ := c6.1 r e
          obtain ⟨b1, b2, b3, b4⟩ := m6.1 r (by omega)
          simp only [gF_sF, gF_sA, gF_uA, gF_sD, gA_sF, gA_sA, gA_uA, gA_sD, gD_sF, gD_sA, gD_uA, gD_sD, Nat.reduceEqDiff, reduceCtorEq, false_and, and_false, true_and, and_true, ite_true, ite_false, if_true, if_false, ↓reduceIte, and_self]
          rw [a2, a3, a4, a5, b1, b2, b3, b4]
          exact ⟨h.1, wordOk_congr h.2.1 (fun j => by show L r j = _; rw [a1]), h.2.2⟩
        · obtain ⟨j, rfl⟩ : ∃ j, r = (gF G 5 0 0) + j := ⟨r - (gF G 5 0 0), by omega⟩
          obtain ⟨a1, a2, a3, a4, a5⟩ := c6.2 j (by omega) (by omega)
          have hm := m6.2 j (by omega) (by omega)
          rw [er] at hm
          obtain ⟨b1, b2, b3, b4⟩ := hm
          have hgj := c4 j (by omega) (by omega)
          have hB := iB.2 t (by omega) (by omega)
          have g1 := hgj.1
          have g2 := hgj.2.1
          have g3 := hgj.2.2.2
          unfold goodC at g3
          have h1 := (hB.2.2 (i + 3 * j) (by omega) (by omega)).1
          have h2 := (hB.2.2 (i + 3 * j + 1) (by omega) (by omega)).1
          have h3 := (hB.2.2 (i + 3 * j + 2) (by omega) (by omega)).1
          have eb := iB.1
          rw [show 60 * t + (i + 3 * j) + 2 = 60 * t + (i + 3 * j + 2) by omega, h3] at b2
          rw [h1, eb] at b3
          rw [show 60 * t + (i + 3 * j) + 1 = 60 * t + (i + 3 * j + 1) by omega, h2, eb] at b4
          simp only [gF_sF, gF_sA, gF_uA, gF_sD, gA_sF, gA_sA, gA_uA, gA_sD, gD_sF, gD_sA, gD_uA, gD_sD, Nat.reduceEqDiff, reduceCtorEq, false_and, and_false, true_and, and_true, ite_true, ite_false, if_true, if_false, ↓reduceIte, and_self]
          rw [b1, b2, a3]
          refine ⟨by omega, wordOk_congr (word_ok ⟨a1.1, a1.2.1⟩ a1.2.2 a2) (fun _ => rfl), by omega, by omega⟩
