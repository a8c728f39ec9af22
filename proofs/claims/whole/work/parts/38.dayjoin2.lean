theorem wor_step {np : Nat} {X Y : PH} {i : Int} (h : Inv np X Y) (h0 : 0 ≤ i) (h1 : i < (gF X 1 0 1)) : Inv np (worC X i) (worM Y i) := by
  obtain ⟨iL, iP, iS, iF, iO, iE, iT, iR, iB, iX, iH, iG, iQ, iN, iA, iJ⟩ := h
  have pi := iP.2.2.2 i h0 h1
  have hpd := iP.2.1
  have ed : (gF Y 12 0 0) = (gF X 1 0 2) := hpd.1
  have hs4 := iS.1.2.2
  have iP_sz : 0 ≤ (gF X 1 0 1) := by omega
  obtain ⟨p1, p2, p3, p4, p5, p6, p7, p8, p9, p10, p11, p12, p13, p14⟩ := pi
  have emg : (gA Y 210 0 (i)) = (gF X 3 (i) 6) := p7.1
  have egd : (gA Y 211 0 (i)) = (gF X 3 (i) 7) := p8.1
  have ems : (gA Y 206 0 (i)) = (gF X 3 (i) 8) := p9.1
  by_cases c0 : (gF X 3 (i) 8) ≤ 1 ∧ 1 ≤ (gF X 3 (i) 6) ∧ (gF X 3 (i) 6) ≤ 9
  · have hr := iP.2.2.1 (gF X 3 (i) 6) (by omega) (by omega)
    have hr2 : (gA Y 203 0 ((gA Y 210 0 (i)))) = (gA X 31 0 ((gF X 3 (i) 6))) := by rw [emg]; exact hr.1
    by_cases c1 : (gA X 31 0 ((gF X 3 (i) 6))) ≠ 0 ∧ (gA X 31 0 ((gF X 3 (i) 6))) ≤ (gF X 1 0 2) - (gF X 3 (i) 7)
    · have cY : ((gA Y 206 0 (i)) ≤ 1 ∧ 1 ≤ (gA Y 210 0 (i)) ∧ (gA Y 210 0 (i)) ≤ 9) ∧ 0 < (gA Y 203 0 ((gA Y 210 0 (i)))) ∧ (gA Y 203 0 ((gA Y 210 0 (i)))) ≤ (gF Y 12 0 0) - (gA Y 211 0 (i)) := ⟨by omega, by omega, by omega⟩
      by_cases c2 : (gF X 3 (i) 6) = 9
      · have eX : worC X i = (sF (sF (sF (sF (uA (sF (sF X 3 i 6 ((gF X 3 (i) 6) + 1)) 3 i 7 (gF X 1 0 2)) 35 0 (filF (fun j0 => (gA X 32 0 (j0)) = i ∧ (gA X 35 0 (j0)) = -1) (fun j0 => (gF X 1 0 2)) (gA X 35 0) (gF X 1 0 3))) 3 (i) 8 (8)) 3 (i) 10 (-1)) 3 (i) 9 ((gF X 1 0 2))) 3 (i) 11 (-1)) := by unfold worC; rw [if_pos ⟨c0, c1⟩, if_pos c2]
        by_cases c3 : (gF X 3 (i) 8) = 0
        · have eY : worM Y i = (sA (sA (sA (uA (sA (sA Y 210 0 i ((gA Y 210 0 (i)) + 1)) 211 0 i (gF Y 12 0 0)) 218 0 (filF (fun j0 => (gA Y 215 0 (j0)) = i ∧ (gA Y 218 0 (j0)) < 0) (fun j0 => (gF Y 12 0 0)) (gA Y 218 0) (gF Y 12 0 22))) 206 0 (i) (8)) 213 0 (i) ((gF Y 12 0 0))) 214 0 (i) (-1)) := by unfold worM; rw [if_pos cY, if_pos (by omega), if_pos (by omega)]
          rw [eX, eY]
          refine ⟨iL, ?_, ?_, iF, iO, iE, iT, iR, iB, iX, iH, iG, iQ, iN, iA, ?_⟩
          · refine IPers_one (p := i) iP rfl rfl rfl rfl rfl rfl rfl (fun _ _ h => h) (fun x e k => by simp only [gF_sF, gF_sA, gF_uA, gF_sD, gA_sF, gA_sA, gA_uA, gA_sD, gD_sF, gD_sA, gD_uA, gD_sD, Nat.reduceEqDiff, reduceCtorEq, false_and, and_false, true_and, and_true, ite_true, ite_false, if_true, if_false, ↓reduceIte, and_self, e]) (fun x => rfl) (fun x _ => rfl) (fun x e c hc1 hc2 => by obtain ⟨n1, n2, n3, n4, n5⟩ := nk214 hc1 hc2; simp only [gF_sF, gF_sA, gF_uA, gF_sD, gA_sF, gA_sA, gA_uA, gA_sD, gD_sF, gD_sA, gD_uA, gD_sD, Nat.reduceEqDiff, reduceCtorEq, false_and, and_false, true_and, and_true, ite_true, ite_false, if_true, if_false, ↓reduceIte, and_self, e, n1, n2, n3, n4, n5]) ?_
            unfold pers1
            simp only [gF_sF, gF_sA, gF_uA, gF_sD, gA_sF, gA_sA, gA_uA, gA_sD, gD_sF, gD_sA, gD_uA, gD_sD, Nat.reduceEqDiff, reduceCtorEq, false_and, and_false, true_and, and_true, ite_true, ite_false, if_true, if_false, ↓reduceIte, and_self, ed, emg]
            refine ⟨by first | assumption | omega | exact fun q => absurd q (by decide) | exact fun _ => trivial | exact fun _ => rfl | (intro _; omega), by first | assumption | omega | exact fun q => absurd q (by decide) | exact fun _ => trivial | exact fun _ => rfl | (intro _; omega), by first | assumption | omega | exact fun q => absurd q (by decide) | exact fun _ => trivial | exact fun _ => rfl | (intro _; omega), by first | assumption | omega | exact fun q => absurd q (by decide) | exact fun _ => trivial | exact fun _ => rfl | (intro _; omega), by first | assumption | omega | exact fun q => absurd q (by decide) | exact fun _ => trivial | exact fun _ => rfl | (intro _; omega), by first | assumption | omega | exact fun q => absurd q (by decide) | exact fun _ => trivial | exact fun _ => rfl | (intro _; omega), by first | assumption | omega | exact fun q => absurd q (by decide) | exact fun _ => trivial | exact fun _ => rfl | (intro _; omega), by first | assumption | omega | exact fun q => absurd q (by decide) | exact fun _ => trivial | exact fun _ => rfl | (intro _; omega), by first | assumption | omega | exact fun q => absurd q (by decide) | exact fun _ => trivial | exact fun _ => rfl | (intro _; omega), by first | assumption | omega | exact fun q => absurd q (by decide) | exact fun _ => trivial | exact fun _ => rfl | (intro _; omega), by first | assumption | omega | exact fun q => absurd q (by decide) | exact fun _ => trivial | exact fun _ => rfl | (intro _; omega), by first | assumption | omega | exact fun q => absurd q (by decide) | exact fun _ => trivial | exact fun _ => rfl | (intro _; omega), by first | assumption | omega | exact fun q => absurd q (by decide) | exact fun _ => trivial | exact fun _ => rfl | (intro _; omega), by first | assumption | omega | exact fun q => absurd q (by decide) | exact fun _ => trivial | exact fun _ => rfl | (intro _; omega)⟩
          · refine IStay_leave (p := i) iS hpd.2.1 ed rfl rfl rfl rfl rfl rfl rfl rfl rfl rfl rfl (Or.inl ⟨by omega, rfl⟩) (fun x e => by simp only [gF_sF, gF_sA, gF_uA, gF_sD, gA_sF, gA_sA, gA_uA, gA_sD, gD_sF, gD_sA, gD_uA, gD_sD, Nat.reduceEqDiff, reduceCtorEq, false_and, and_false, true_and, and_true, ite_true, ite_false, if_true, if_false, ↓reduceIte, and_self, e]) ?_
            have hm : cnt (owP (sF (sF (sF (sF (uA (sF (sF X 3 i 6 ((gF X 3 (i) 6) + 1)) 3 i 7 (gF X 1 0 2)) 35 0 (filF (fun j0 => (gA X 32 0 (j0)) = i ∧ (gA X 35 0 (j0)) = -1) (fun j0 => (gF X 1 0 2)) (gA X 35 0) (gF X 1 0 3))) 3 (i) 8 (8)) 3 (i) 10 (-1)) 3 (i) 9 ((gF X 1 0 2))) 3 (i) 11 (-1))) (gF X 1 0 1) ≤ cnt (owP X) (gF X 1 0 1) := cnt_mono iP_sz fun x a b q => by
                unfold owP at q ⊢
                by_cases e : x = i
                · subst e
                  revert q
                  simp only [gF_sF, gF_sA, gF_uA, gF_sD, gA_sF, gA_sA, gA_uA, gA_sD, gD_sF, gD_sA, gD_uA, gD_sD, Nat.reduceEqDiff, reduceCtorEq, false_and, and_false, true_and, and_true, ite_true, ite_false, if_true, if_false, ↓reduceIte, and_self]
                  intro q
                  omega
                · revert q
                  simp only [gF_sF, gF_sA, gF_uA, gF_sD, gA_sF, gA_sA, gA_uA, gA_sD, gD_sF, gD_sA, gD_uA, gD_sD, Nat.reduceEqDiff, reduceCtorEq, false_and, and_false, true_and, and_true, ite_true, ite_false, if_true, if_false, ↓reduceIte, and_self, e]
                  exact id
            show (gF X 1 0 3) + cnt (owP (sF (sF (sF (sF (uA (sF (sF X 3 i 6 ((gF X 3 (i) 6) + 1)) 3 i 7 (gF X 1 0 2)) 35 0 (filF (fun j0 => (gA X 32 0 (j0)) = i ∧ (gA X 35 0 (j0)) = -1) (fun j0 => (gF X 1 0 2)) (gA X 35 0) (gF X 1 0 3))) 3 (i) 8 (8)) 3 (i) 10 (-1)) 3 (i) 9 ((gF X 1 0 2))) 3 (i) 11 (-1))) (gF X 1 0 1) ≤ 400
            omega
          · refine ISide_one (p := i) iJ rfl rfl (fun x e => ⟨by simp only [gF_sF, gF_sA, gF_uA, gF_sD, gA_sF, gA_sA, gA_uA, gA_sD, gD_sF, gD_sA, gD_uA, gD_sD, Nat.reduceEqDiff, reduceCtorEq, false_and, and_false, true_and, and_true, ite_true, ite_false, if_true, if_false, ↓reduceIte, and_self, e], by simp only [gF_sF, gF_sA, gF_uA, gF_sD, gA_sF, gA_sA, gA_uA, gA_sD, gD_sF, gD_sA, gD_uA, gD_sD, Nat.reduceEqDiff, reduceCtorEq, false_and, and_false, true_and, and_true, ite_true, ite_false, if_true, if_false, ↓reduceIte, and_self, e], by simp only [gF_sF, gF_sA, gF_uA, gF_sD, gA_sF, gA_sA, gA_uA, gA_sD, gD_sF, gD_sA, gD_uA, gD_sD, Nat.reduceEqDiff, reduceCtorEq, false_and, and_false, true_and, and_true, ite_true, ite_false, if_true, if_false, ↓reduceIte, and_self, e]⟩) ?_
            unfold sideOk
            simp only [gF_sF, gF_sA, gF_uA, gF_sD, gA_sF, gA_sA, gA_uA, gA_sD, gD_sF, gD_sA, gD_uA, gD_sD, Nat.reduceEqDiff, reduceCtorEq, false_and, and_false, true_and, and_true, ite_true, ite_false, if_true, if_false, ↓reduceIte, and_self]
            first | done | (exact ⟨fun z => by omega, fun z => by omega⟩) | (intro z; omega)
        · have eY : worM Y i = (sA (sA (sA (sA (sA Y 210 0 i ((gA Y 210 0 (i)) + 1)) 211 0 i (gF Y 12 0 0)) 206 0 (i) (8)) 213 0 (i) ((gF Y 12 0 0))) 214 0 (i) (-1)) := by unfold worM; rw [if_pos cY, if_pos (by omega), if_neg (by omega)]
          rw [eX, eY]
          refine ⟨iL, ?_, ?_, iF, iO, iE, iT, iR, iB, iX, iH, iG, iQ, iN, iA, ?_⟩
          · refine IPers_one (p := i) iP rfl rfl rfl rfl rfl rfl rfl (fun _ _ h => h) (fun x e k => by simp only [gF_sF, gF_sA, gF_uA, gF_sD, gA_sF, gA_sA, gA_uA, gA_sD, gD_sF, gD_sA, gD_uA, gD_sD, Nat.reduceEqDiff, reduceCtorEq, false_and, and_false, true_and, and_true, ite_true, ite_false, if_true, if_false, ↓reduceIte, and_self, e]) (fun x => rfl) (fun x _ => rfl) (fun x e c hc1 hc2 => by obtain ⟨n1, n2, n3, n4, n5⟩ := nk214 hc1 hc2; simp only [gF_sF, gF_sA, gF_uA, gF_sD, gA_sF, gA_sA, gA_uA, gA_sD, gD_sF, gD_sA, gD_uA, gD_sD, Nat.reduceEqDiff, reduceCtorEq, false_and, and_false, true_and, and_true, ite_true, ite_false, if_true, if_false, ↓reduceIte, and_self, e, n1, n2, n3, n4, n5]) ?_
            unfold pers1
            simp only [gF_sF, gF_sA, gF_uA, gF_sD, gA_sF, gA_sA, gA_uA, gA_sD, gD_sF, gD_sA, gD_uA, gD_sD, Nat.reduceEqDiff, reduceCtorEq, false_and, and_false, true_and, and_true, ite_true, ite_false, if_true, if_false, ↓reduceIte, and_self, ed, emg]
            refine ⟨by first | assumption | omega | exact fun q => absurd q (by decide) | exact fun _ => trivial | exact fun _ => rfl | (intro _; omega), by first | assumption | omega | exact fun q => absurd q (by decide) | exact fun _ => trivial | exact fun _ => rfl | (intro _; omega), by first | assumption | omega | exact fun q => absurd q (by decide) | exact fun _ => trivial | exact fun _ => rfl | (intro _; omega), by first | assumption | omega | exact fun q => absurd q (by decide) | exact fun _ => trivial | exact fun _ => rfl | (intro _; omega), by first | assumption | omega | exact fun q => absurd q (by decide) | exact fun _ => trivial | exact fun _ => rfl | (intro _; omega), by first | assumption | omega | exact fun q => absurd q (by decide) | exact fun _ => trivial | exact fun _ => rfl | (intro _; omega), by first | assumption | omega | exact fun q => absurd q (by decide) | exact fun _ => trivial | exact fun _ => rfl | (intro _; omega), by first | assumption | omega | exact fun q => absurd q (by decide) | exact fun _ => trivial | exact fun _ => rfl | (intro _; omega), by first | assumption | omega | exact fun q => absurd q (by decide) | exact fun _ => trivial | exact fun _ => rfl | (intro _; omega), by first | assumption | omega | exact fun q => absurd q (by decide) | exact fun _ => trivial | exact fun _ => rfl | (intro _; omega), by first | assumption | omega | exact fun q => absurd q (by decide) | exact fun _ => trivial | exact fun _ => rfl | (intro _; omega), by first | assumption | omega | exact fun q => absurd q (by decide) | exact fun _ => trivial | exact fun _ => rfl | (intro _; omega), by first | assumption | omega | exact fun q => absurd q (by decide) | exact fun _ => trivial | exact fun _ => rfl | (intro _; omega), by first | assumption | omega | exact fun q => absurd q (by decide) | exact fun _ => trivial | exact fun _ => rfl | (intro _; omega)⟩
          · refine IStay_leave (p := i) iS hpd.2.1 ed rfl rfl rfl rfl rfl rfl rfl rfl rfl rfl rfl (Or.inr ⟨by omega, rfl⟩) (fun x e => by simp only [gF_sF, gF_sA, gF_uA, gF_sD, gA_sF, gA_sA, gA_uA, gA_sD, gD_sF, gD_sA, gD_uA, gD_sD, Nat.reduceEqDiff, reduceCtorEq, false_and, and_false, true_and, and_true, ite_true, ite_false, if_true, if_false, ↓reduceIte, and_self, e]) ?_
            have hm : cnt (owP (sF (sF (sF (sF (uA (sF (sF X 3 i 6 ((gF X 3 (i) 6) + 1)) 3 i 7 (gF X 1 0 2)) 35 0 (filF (fun j0 => (gA X 32 0 (j0)) = i ∧ (gA X 35 0 (j0)) = -1) (fun j0 => (gF X 1 0 2)) (gA X 35 0) (gF X 1 0 3))) 3 (i) 8 (8)) 3 (i) 10 (-1)) 3 (i) 9 ((gF X 1 0 2))) 3 (i) 11 (-1))) (gF X 1 0 1) ≤ cnt (owP X) (gF X 1 0 1) := cnt_mono iP_sz fun x a b q => by
                unfold owP at q ⊢
                by_cases e : x = i
                · subst e
                  revert q
                  simp only [gF_sF, gF_sA, gF_uA, gF_sD, gA_sF, gA_sA, gA_uA, gA_sD, gD_sF, gD_sA, gD_uA, gD_sD, Nat.reduceEqDiff, reduceCtorEq, false_and, and_false, true_and, and_true, ite_true, ite_false, if_true, if_false, ↓reduceIte, and_self]
                  intro q
                  omega
                · revert q
                  simp only [gF_sF, gF_sA, gF_uA, gF_sD, gA_sF, gA_sA, gA_uA, gA_sD, gD_sF, gD_sA, gD_uA, gD_sD, Nat.reduceEqDiff, reduceCtorEq, false_and, and_false, true_and, and_true, ite_true, ite_false, if_true, if_false, ↓reduceIte, and_self, e]
                  exact id
            show (gF X 1 0 3) + cnt (owP (sF (sF (sF (sF (uA (sF (sF X 3 i 6 ((gF X 3 (i) 6) + 1)) 3 i 7 (gF X 1 0 2)) 35 0 (filF (fun j0 => (gA X 32 0 (j0)) = i ∧ (gA X 35 0 (j0)) = -1) (fun j0 => (gF X 1 0 2)) (gA X 35 0) (gF X 1 0 3))) 3 (i) 8 (8)) 3 (i) 10 (-1)) 3 (i) 9 ((gF X 1 0 2))) 3 (i) 11 (-1))) (gF X 1 0 1) ≤ 400
            omega
          · refine ISide_one (p := i) iJ rfl rfl (fun x e => ⟨by simp only [gF_sF, gF_sA, gF_uA, gF_sD, gA_sF, gA_sA, gA_uA, gA_sD, gD_sF, gD_sA, gD_uA, gD_sD, Nat.reduceEqDiff, reduceCtorEq, false_and, and_false, true_and, and_true, ite_true, ite_false, if_true, if_false, ↓reduceIte, and_self, e], by simp only [gF_sF, gF_sA, gF_uA, gF_sD, gA_sF, gA_sA, gA_uA, gA_sD, gD_sF, gD_sA, gD_uA, gD_sD, Nat.reduceEqDiff, reduceCtorEq, false_and, and_false, true_and, and_true, ite_true, ite_false, if_true, if_false, ↓reduceIte, and_self, e], by simp only [gF_sF, gF_sA, gF_uA, gF_sD, gA_sF, gA_sA, gA_uA, gA_sD, gD_sF, gD_sA, gD_uA, gD_sD, Nat.reduceEqDiff, reduceCtorEq, false_and, and_false, true_and, and_true, ite_true, ite_false, if_true, if_false, ↓reduceIte, and_self, e]⟩) ?_
            unfold sideOk
            simp only [gF_sF, gF_sA, gF_uA, gF_sD, gA_sF, gA_sA, gA_uA, gA_sD, gD_sF, gD_sA, gD_uA, gD_sD, Nat.reduceEqDiff, reduceCtorEq, false_and, and_false, true_and, and_true, ite_true, ite_false, if_true, if_false, ↓reduceIte, and_self]
            first | done | (exact ⟨fun z => by omega, fun z => by omega⟩) | (intro z; omega)
      · have eX : worC X i = (sF (sF X 3 i 6 ((gF X 3 (i) 6) + 1)) 3 i 7 (gF X 1 0 2)) := by unfold worC; rw [if_pos ⟨c0, c1⟩, if_neg c2]
        have eY : worM Y i = (sA (sA Y 210 0 i ((gA Y 210 0 (i)) + 1)) 211 0 i (gF Y 12 0 0)) := by unfold worM; rw [if_pos cY, if_neg (by omega)]
        rw [eX, eY]
        refine ⟨iL, ?_, iS, iF, iO, iE, iT, iR, iB, iX, iH, iG, iQ, iN, iA, iJ⟩
        · refine IPers_one (p := i) iP rfl rfl rfl rfl rfl rfl rfl (fun _ _ h => h) (fun x e k => by simp only [gF_sF, gF_sA, gF_uA, gF_sD, gA_sF, gA_sA, gA_uA, gA_sD, gD_sF, gD_sA, gD_uA, gD_sD, Nat.reduceEqDiff, reduceCtorEq, false_and, and_false, true_and, and_true, ite_true, ite_false, if_true, if_false, ↓reduceIte, and_self, e]) (fun x => rfl) (fun x _ => rfl) (fun x e c hc1 hc2 => by obtain ⟨n1, n2, n3, n4, n5⟩ := nk214 hc1 hc2; simp only [gF_sF, gF_sA, gF_uA, gF_sD, gA_sF, gA_sA, gA_uA, gA_sD, gD_sF, gD_sA, gD_uA, gD_sD, Nat.reduceEqDiff, reduceCtorEq, false_and, and_false, true_and, and_true, ite_true, ite_false, if_true, if_false, ↓reduceIte, and_self, e, n1, n2, n3, n4, n5]) ?_
          unfold pers1
          simp only [gF_sF, gF_sA, gF_uA, gF_sD, gA_sF, gA_sA, gA_uA, gA_sD, gD_sF, gD_sA, gD_uA, gD_sD, Nat.reduceEqDiff, reduceCtorEq, false_and, and_false, true_and, and_true, ite_true, ite_false, if_true, if_false, ↓reduceIte, and_self, ed, emg]
          refine ⟨by first | assumption | omega | exact fun q => absurd q (by decide) | exact fun _ => trivial | exact fun _ => rfl | (intro _; omega), by first | assumption | omega | exact fun q => absurd q (by decide) | exact fun _ => trivial | exact fun _ => rfl | (intro _; omega), by first | assumption | omega | exact fun q => absurd q (by decide) | exact fun _ => trivial | exact fun _ => rfl | (intro _; omega), by first | assumption | omega | exact fun q => absurd q (by decide) | exact fun _ => trivial | exact fun _ => rfl | (intro _; omega), by first | assumption | omega | exact fun q => absurd q (by decide) | exact fun _ => trivial | exact fun _ => rfl | (intro _; omega), by first | assumption | omega | exact fun q => absurd q (by decide) | exact fun _ => trivial | exact fun _ => rfl | (intro _; omega), by first | assumption | omega | exact fun q => absurd q (by decide) | exact fun _ => trivial | exact fun _ => rfl | (intro _; omega), by first | assumption | omega | exact fun q => absurd q (by decide) | exact fun _ => trivial | exact fun _ => rfl | (intro _; omega), by first | assumption | omega | exact fun q => absurd q (by decide) | exact fun _ => trivial | exact fun _ => rfl | (intro _; omega), by first | assumption | omega | exact fun q => absurd q (by decide) | exact fun _ => trivial | exact fun _ => rfl | (intro _; omega), by first | assumption | omega | exact fun q => absurd q (by decide) | exact fun _ => trivial | exact fun _ => rfl | (intro _; omega), by first | assumption | omega | exact fun q => absurd q (by decide) | exact fun _ => trivial | exact fun _ => rfl | (intro _; omega), by first | assumption | omega | exact fun q => absurd q (by decide) | exact fun _ => trivial | exact fun _ => rfl | (intro _; omega), by first | assumption | omega | exact fun q => absurd q (by decide) | exact fun _ => trivial | exact fun _ => rfl | (intro _; omega)⟩
    · have eX : worC X i = X := by unfold worC; rw [if_neg (by omega)]
      have eY : worM Y i = Y := by unfold worM; rw [if_neg (by omega)]
      rw [eX, eY]
      exact ⟨iL, iP, iS, iF, iO, iE, iT, iR, iB, iX, iH, iG, iQ, iN, iA, iJ⟩
  · have eX : worC X i = X := by unfold worC; rw [if_neg (by omega)]
    have eY : worM Y i = Y := by unfold worM; rw [if_neg (by omega)]
    rw [eX, eY]
    exact ⟨iL, iP, iS, iF, iO, iE, iT, iR, iB, iX, iH, iG, iQ, iN, iA, iJ⟩
theorem day_begin {np : Nat} {X Y : PH} (h : Inv np X Y) (hd : (gF X 1 0 2) < 600) : InvQ np 0 (sF X 1 0 2 ((gF X 1 0 2) + 1)) (nextM Y) := by
  obtain ⟨iL, iP, iS, iF, iO, iE, iT, iR, iB, iX, iH, iG, iQ, iN, iA, iJ⟩ := h
  have hpd := iP.2.1
  have hp2 : (gF Y 12 0 0) + 1 = (gF X 1 0 2) + 1 ∧ 0 ≤ (gF X 1 0 2) + 1 ∧ (gF X 1 0 2) + 1 ≤ 600 := by omega
  refine ⟨iL, ⟨iP.1, hp2, iP.2.2.1, fun x a b => ?_⟩, ⟨iS.1, fun s a b => ?_⟩, ⟨iF.1, iF.2.1, iF.2.2.1, fun x a b => ?_, iF.2.2.2.2.1, fun x a b => ?_⟩, iO, iE, iT, iR, iB, iX, iH, iG, iQ, iN, iA, iJ⟩
  · obtain ⟨p1, p2, p3, p4, p5, p6, p7, p8, p9, p10, p11, p12, p13, p14⟩ := iP.2.2.2 x a b
    have hx : x < 150 := Int.lt_of_lt_of_le b iP.1.2.1
    exact ⟨p1, p2, p3, p4, p5, ⟨p6.1, p6.2.1, Int.le_trans p6.2.2 (by show (gF X 1 0 2) ≤ (gF X 1 0 2) + 1; omega)⟩, p7, ⟨p8.1, p8.2.1, Int.le_trans p8.2.2 (by show (gF X 1 0 2) ≤ (gF X 1 0 2) + 1; omega)⟩, p9, ⟨p10.1, p10.2.1, Int.le_trans p10.2.2 (by show (gF X 1 0 2) ≤ (gF X 1 0 2) + 1; omega)⟩, p11, fun s => ⟨(p12 s).1, (p12 s).2.1, (p12 s).2.2.1, (p12 s).2.2.2.2.1 hx, fun z => absurd z (by omega), (p12 s).2.2.2.2.2⟩, p13, p14⟩
  · have h := iS.2 s a b
    exact ⟨h.1, h.2.1, ⟨h.2.2.1.1, h.2.2.1.2.1, Int.le_trans h.2.2.1.2.2 (by show (gF X 1 0 2) ≤ (gF X 1 0 2) + 1; omega)⟩, h.2.2.2.1, h.2.2.2.2.elim Or.inl (fun q => Or.inr ⟨q.1, Int.le_trans q.2 (by show (gF X 1 0 2) ≤ (gF X 1 0 2) + 1; omega)⟩)⟩
  · have h := iF.2.2.2.1 x a b
    exact ⟨h.1, Int.le_trans h.2 (by show (gF X 1 0 2) ≤ (gF X 1 0 2) + 1; omega)⟩
  · have h := iF.2.2.2.2.2 x a b
    exact ⟨h.1, h.2.1, h.2.2.1, ⟨h.2.2.2.1.1, h.2.2.2.1.2.1, Int.le_trans h.2.2.2.1.2.2 (by show (gF X 1 0 2) ≤ (gF X 1 0 2) + 1; omega)⟩, h.2.2.2.2⟩
theorem InvQ_end {np : Nat} {X Y : PH} {q : Int} (h : InvQ np q X Y) (hq : (gF X 1 0 1) ≤ q) : Inv np X Y := by
  obtain ⟨iL, iP, iS, iF, iO, iE, iT, iR, iB, iX, iH, iG, iQ, iN, iA, iJ⟩ := h
  exact ⟨iL, ⟨iP.1, iP.2.1, iP.2.2.1, fun x a b => pers1_q (iP.2.2.2 x a b) (fun _ => Int.lt_of_lt_of_le b hq)⟩, iS, iF, iO, iE, iT, iR, iB, iX, iH, iG, iQ, iN, iA, iJ⟩
theorem arrivals {np : Nat} {X Y : PH} (h : Inv np X Y) (hd : (gF X 1 0 2) < 600) {m : Int} (hm : 0 ≤ m) (hms : m ≤ (gF X 1 0 1)) : InvQ np m (arvsC (sF X 1 0 2 ((gF X 1 0 2) + 1)) m) (arvsM (nextM Y) m) ∧ gF (arvsC (sF X 1 0 2 ((gF X 1 0 2) + 1)) m) 1 0 1 = (gF X 1 0 1) := by
  refine nat_ind (p := fun m => m ≤ (gF X 1 0 1) → InvQ np m (arvsC (sF X 1 0 2 ((gF X 1 0 2) + 1)) m) (arvsM (nextM Y) m) ∧ gF (arvsC (sF X 1 0 2 ((gF X 1 0 2) + 1)) m) 1 0 1 = (gF X 1 0 1)) (fun _ => ⟨day_begin h hd, rfl⟩) (fun m hm ih hmn => ?_) m hm hms
  have q := ih (by omega)
  rw [arvs_s hm, arvsM_s hm]
  exact ⟨(arv_step q.1 hm (by rw [q.2]; omega)).1, (arv_same _ m).1.trans q.2⟩
theorem day_room {np : Nat} {X Y : PH} (h : Inv np X Y) (hd : (gF X 1 0 2) < 600) {i : Int} (h0 : 0 ≤ i) (h1 : i < (gF X 1 0 1)) : roomM (arvsM (nextM Y) i) i := by
  have q := arrivals h hd h0 (by omega : i ≤ (gF X 1 0 1))
  exact (arv_step q.1 h0 (by rw [q.2]; exact h1)).2
theorem wor_all {np : Nat} {X Y : PH} (h : Inv np X Y) {m : Int} (hm : 0 ≤ m) (hms : m ≤ (gF X 1 0 1)) : Inv np (worsC X m) (worsM Y m) ∧ gF (worsC X m) 1 0 1 = (gF X 1 0 1) := by
  refine nat_ind (p := fun m => m ≤ (gF X 1 0 1) → Inv np (worsC X m) (worsM Y m) ∧ gF (worsC X m) 1 0 1 = (gF X 1 0 1)) (fun _ => ⟨h, rfl⟩) (fun m hm ih hmn => ?_) m hm hms
  have q := ih (by omega)
  rw [wors_s hm, worsM_s hm]
  exact ⟨wor_step q.1 hm (by rw [q.2]; omega), (wor_same _ m).1.trans q.2⟩
theorem day_step {np : Nat} {X Y : PH} (h : Inv np X Y) (hd : (gF X 1 0 2) < 600) : Inv np (dayC X) (dayM Y) := by
  have hs : 0 ≤ (gF X 1 0 1) := by have := h.2.1.1.1; omega
  have ep : (gF Y 12 0 17) = (gF X 1 0 1) := h.2.1.1.2.2
  have q := arrivals h hd hs (Int.le_refl _)
  have q1 := InvQ_end q.1 (Int.le_of_eq q.2)
  have r := wor_all q1 hs (by rw [q.2]; exact Int.le_refl _)
  unfold dayC dayM
  rw [ep]
  exact r.1
theorem CR_of {np : Nat} {X Y : PH} (h : Inv np X Y) : CR X := ⟨⟨by have := h.2.1.1.1; omega, h.2.1.1.2.1⟩, fun i a b => (h.2.1.2.2.2 i a b).1.1, ⟨h.2.2.1.1.2.1, by have := h.2.2.1.1.2.2; have := (cnt_le (owP X) (show 0 ≤ (gF X 1 0 1) by have := h.2.1.1.1; omega)).1; omega⟩, fun i a b => (h.2.1.2.2.2 i a b).1.2, h.2.1.2.1.2, fun i a b => ⟨(h.2.1.2.2.2 i a b).2.2.2.2.2.2.2.1.2.1, by have := (h.2.1.2.2.2 i a b).2.2.2.2.2.2.2.1.2.2; have := h.2.1.2.1.2.2; omega⟩⟩
theorem days_step {np : Nat} {X Y : PH} (h : Inv np X Y) {n : Int} (hn : 0 ≤ n) (hd : (gF X 1 0 2) + n ≤ 600) : Inv np (daysC X n) (daysM Y n) := by
  refine nat_ind (p := fun m => m ≤ n → Inv np (daysC X m) (daysM Y m)) (fun _ => h) (fun m hm ih hmn => ?_) n hn (Int.le_refl _)
  have q := ih (by omega)
  have r := (days_ok hm (CR_of h) (by omega)).2.2
  rw [days_s hm, daysM_s hm]
  exact day_step q (by rw [r]; omega)
