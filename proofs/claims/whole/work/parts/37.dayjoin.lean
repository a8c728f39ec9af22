/-- the bond while the persons before q have come and the others not yet -/
def InvQ (np : Nat) (q : Int) (X Y : PH) : Prop := ILand X Y ∧ IPers np q X Y ∧ IStay X Y ∧ IFact X Y ∧ IProm X Y ∧ ITape X Y ∧ IText X Y ∧ IRow X Y ∧ ITab X Y ∧ ITrade X Y ∧ IShip X Y ∧ IBridge X Y ∧ ISought X Y ∧ IRound X Y ∧ ITrace X Y ∧ ISide X Y
theorem InvQ_eq {np : Nat} {X Y : PH} : Inv np X Y = InvQ np 150 X Y := rfl
theorem pers1_q {q r day camps : Int} {X Y : PH} {x : Int} (h : pers1 q day camps X Y x) (hq : x < r → x < q) : pers1 r day camps X Y x := by
  obtain ⟨p1, p2, p3, p4, p5, p6, p7, p8, p9, p10, p11, p12, p13, p14⟩ := h
  exact ⟨p1, p2, p3, p4, p5, p6, p7, p8, p9, p10, p11, fun s => ⟨(p12 s).1, (p12 s).2.1, (p12 s).2.2.1, (p12 s).2.2.2.1, fun z => (p12 s).2.2.2.2.1 (hq z), (p12 s).2.2.2.2.2⟩, p13, p14⟩
theorem arv_step {np : Nat} {X Y : PH} {i : Int} (h : InvQ np i X Y) (h0 : 0 ≤ i) (h1 : i < (gF X 1 0 1)) : InvQ np (i + 1) (arvC X i) (arvM Y i) ∧ roomM Y i := by
  obtain ⟨iL, iP, iS, iF, iO, iE, iT, iR, iB, iX, iH, iG, iQ, iN, iA, iJ⟩ := h
  have pi := iP.2.2.2 i h0 h1
  have hpd := iP.2.1
  have hc : 0 ≤ (gF X 2 0 2) ∧ (gF X 2 0 2) ≤ 16 := ⟨iL.1.1, iL.1.2.1⟩
  have es : (gF Y 12 0 22) = (gF X 1 0 3) := iS.1.1
  have ed : (gF Y 12 0 0) = (gF X 1 0 2) := hpd.1
  have hs4 := iS.1.2.2
  have hs0 : 0 ≤ (gF X 1 0 3) := iS.1.2.1
  obtain ⟨p1, p2, p3, p4, p5, p6, p7, p8, p9, p10, p11, p12, p13, p14⟩ := pi
  have ems : (gA Y 206 0 (i)) = (gF X 3 (i) 8) := p9.1
  have same : ((gF X 3 (i) 8) = 1 → (gF X 1 0 2) < (gF X 3 (i) 11)) → InvQ np (i + 1) X Y := by
    intro hh
    refine ⟨iL, ⟨iP.1, iP.2.1, iP.2.2.1, fun x a b => ?_⟩, iS, iF, iO, iE, iT, iR, iB, iX, iH, iG, iQ, iN, iA, iJ⟩
    by_cases e : x = i
    · subst e
      exact ⟨p1, p2, p3, p4, p5, p6, p7, p8, p9, p10, p11, fun s => ⟨(p12 s).1, (p12 s).2.1, (p12 s).2.2.1, (p12 s).2.2.2.1, fun _ => hh s, (p12 s).2.2.2.2.2⟩, p13, p14⟩
    · exact pers1_q (iP.2.2.2 x a b) (by omega)
  by_cases c1 : (gF X 3 (i) 8) = 1
  · have g := p12 c1
    have hpt : (0 ≤ (gF X 3 (i) 10) ∧ (gF X 3 (i) 10) < (gF X 2 0 2)) ∨ (gF X 3 (i) 10) = 16 ∨ (gF X 3 (i) 10) = 17 := g.2.1
    have emt := g.2.2.1
    have hdt := g.2.2.2.1
    have emp := g.1
    by_cases c2 : (gF X 3 (i) 11) ≤ (gF X 1 0 2)
    · have cM : (gA Y 206 0 (i)) = 1 ∧ (gA Y 214 0 (i)) = (gF Y 12 0 0) := ⟨by omega, by omega⟩
      have iP_sz : 0 ≤ (gF X 1 0 1) := by omega
      by_cases c3 : (gF X 3 (i) 10) = 16
      · skip
        have eX : arvC X i = (sF (sF (sF (sF X 3 i 8 (2)) 3 i 10 (-1)) 3 i 9 (gF X 1 0 2)) 3 i 11 (-1)) := by unfold arvC; rw [if_pos ⟨c1, c2⟩, if_pos c3]
        have eY : arvM Y i = (sA (sA (sA Y 206 0 (i) (2)) 213 0 (i) ((gF Y 12 0 0))) 214 0 (i) (-1)) := by unfold arvM; rw [if_pos cM, if_neg (by omega), if_pos (by omega)]
        rw [eX, eY]
        refine ⟨⟨iL, ⟨iP.1, iP.2.1, iP.2.2.1, fun x a b => ?_⟩, ?_, iF, iO, iE, iT, iR, iB, iX, iH, iG, iQ, iN, iA, ?_⟩, fun _ _ z => by omega⟩
        · by_cases e : x = i
          · subst e
            unfold pers1
            simp only [gF_sF, gF_sA, gF_uA, gF_sD, gA_sF, gA_sA, gA_uA, gA_sD, gD_sF, gD_sA, gD_uA, gD_sD, Nat.reduceEqDiff, reduceCtorEq, false_and, and_false, true_and, and_true, ite_true, ite_false, if_true, if_false, ↓reduceIte, and_self, ed, emp]
            refine ⟨by first | assumption | omega | exact fun q => absurd q (by decide) | exact fun _ => trivial | exact fun _ => rfl | (intro _; omega), by first | assumption | omega | exact fun q => absurd q (by decide) | exact fun _ => trivial | exact fun _ => rfl | (intro _; omega), by first | assumption | omega | exact fun q => absurd q (by decide) | exact fun _ => trivial | exact fun _ => rfl | (intro _; omega), by first | assumption | omega | exact fun q => absurd q (by decide) | exact fun _ => trivial | exact fun _ => rfl | (intro _; omega), by first | assumption | omega | exact fun q => absurd q (by decide) | exact fun _ => trivial | exact fun _ => rfl | (intro _; omega), by first | assumption | omega | exact fun q => absurd q (by decide) | exact fun _ => trivial | exact fun _ => rfl | (intro _; omega), by first | assumption | omega | exact fun q => absurd q (by decide) | exact fun _ => trivial | exact fun _ => rfl | (intro _; omega), by first | assumption | omega | exact fun q => absurd q (by decide) | exact fun _ => trivial | exact fun _ => rfl | (intro _; omega), by first | assumption | omega | exact fun q => absurd q (by decide) | exact fun _ => trivial | exact fun _ => rfl | (intro _; omega), by first | assumption | omega | exact fun q => absurd q (by decide) | exact fun _ => trivial | exact fun _ => rfl | (intro _; omega), by first | assumption | omega | exact fun q => absurd q (by decide) | exact fun _ => trivial | exact fun _ => rfl | (intro _; omega), by first | assumption | omega | exact fun q => absurd q (by decide) | exact fun _ => trivial | exact fun _ => rfl | (intro _; omega), by first | assumption | omega | exact fun q => absurd q (by decide) | exact fun _ => trivial | exact fun _ => rfl | (intro _; omega), by first | assumption | omega | exact fun q => absurd q (by decide) | exact fun _ => trivial | exact fun _ => rfl | (intro _; omega)⟩
          · have h := pers1_q (r := i + 1) (iP.2.2.2 x a b) (by omega)
            unfold pers1 at h ⊢
            simp only [gF_sF, gF_sA, gF_uA, gF_sD, gA_sF, gA_sA, gA_uA, gA_sD, gD_sF, gD_sA, gD_uA, gD_sD, Nat.reduceEqDiff, reduceCtorEq, false_and, and_false, true_and, and_true, ite_true, ite_false, if_true, if_false, ↓reduceIte, and_self, e]
            exact h
        · refine ⟨⟨iS.1.1, iS.1.2.1, ?_⟩, fun s x y => ?_⟩
          · have hm : cnt (owP (sF (sF (sF (sF X 3 i 8 (2)) 3 i 10 (-1)) 3 i 9 (gF X 1 0 2)) 3 i 11 (-1))) (gF X 1 0 1) ≤ cnt (owP X) (gF X 1 0 1) := cnt_mono iP_sz fun x a b q => by
              unfold owP at q ⊢
              by_cases e : x = i
              · subst e
                revert q
                simp only [gF_sF, gF_sA, gF_uA, gF_sD, gA_sF, gA_sA, gA_uA, gA_sD, gD_sF, gD_sA, gD_uA, gD_sD, Nat.reduceEqDiff, reduceCtorEq, false_and, and_false, true_and, and_true, ite_true, ite_false, if_true, if_false, ↓reduceIte, and_self]
                intro q
                omega
              · revert q
                simp only [gF_sF, gF_sA, gF_uA, gF_sD, gA_sF, gA_sA, gA_uA, gA_sD, gD_sF, gD_sA, gD_uA, gD_sD, Nat.reduceEqDiff, reduceCtorEq, false_and, and_false, true_and, and_true, ite_true, ite_false, if_true, if_false, ↓reduceIte, and_self, e]
                exact id
            show (gF X 1 0 3) + cnt (owP (sF (sF (sF (sF X 3 i 8 (2)) 3 i 10 (-1)) 3 i 9 (gF X 1 0 2)) 3 i 11 (-1))) (gF X 1 0 1) ≤ 400
            omega
          · have h := iS.2 s x y
            by_cases eo : (gA X 32 0 (s)) = i
            · unfold stay1 at h ⊢
              have h5 := h.2.2.2.2
              rw [eo] at h5
              refine ⟨h.1, h.2.1, h.2.2.1, h.2.2.2.1, Or.inr ?_⟩
              show 0 ≤ (gA X 35 0 (s)) ∧ (gA X 35 0 (s)) ≤ (gF X 1 0 2)
              omega
            · unfold stay1 at h ⊢
              simp only [gF_sF, gF_sA, gF_uA, gF_sD, gA_sF, gA_sA, gA_uA, gA_sD, gD_sF, gD_sA, gD_uA, gD_sD, Nat.reduceEqDiff, reduceCtorEq, false_and, and_false, true_and, and_true, ite_true, ite_false, if_true, if_false, ↓reduceIte, and_self, eo]
              exact h
        · refine ISide_one (p := i) iJ rfl rfl (fun x e => ⟨by simp only [gF_sF, gF_sA, gF_uA, gF_sD, gA_sF, gA_sA, gA_uA, gA_sD, gD_sF, gD_sA, gD_uA, gD_sD, Nat.reduceEqDiff, reduceCtorEq, false_and, and_false, true_and, and_true, ite_true, ite_false, if_true, if_false, ↓reduceIte, and_self, e], by simp only [gF_sF, gF_sA, gF_uA, gF_sD, gA_sF, gA_sA, gA_uA, gA_sD, gD_sF, gD_sA, gD_uA, gD_sD, Nat.reduceEqDiff, reduceCtorEq, false_and, and_false, true_and, and_true, ite_true, ite_false, if_true, if_false, ↓reduceIte, and_self, e], by simp only [gF_sF, gF_sA, gF_uA, gF_sD, gA_sF, gA_sA, gA_uA, gA_sD, gD_sF, gD_sA, gD_uA, gD_sD, Nat.reduceEqDiff, reduceCtorEq, false_and, and_false, true_and, and_true, ite_true, ite_false, if_true, if_false, ↓reduceIte, and_self, e]⟩) ?_
          have hj := iJ i h0 h1
          unfold sideOk at hj ⊢
          simp only [gF_sF, gF_sA, gF_uA, gF_sD, gA_sF, gA_sA, gA_uA, gA_sD, gD_sF, gD_sA, gD_uA, gD_sD, Nat.reduceEqDiff, reduceCtorEq, false_and, and_false, true_and, and_true, ite_true, ite_false, if_true, if_false, ↓reduceIte, and_self]
          first | done | (exact ⟨fun z => by omega, fun z => by omega⟩) | (exact ⟨fun _ => hj.2 c1 (by omega), fun z => by omega⟩) | (intro z; omega) | exact hj.2 c1 (by omega)
      · by_cases c4 : (gF X 3 (i) 10) = 17
        · skip
          have eX : arvC X i = (sF (sF (sF (sF X 3 i 8 (3)) 3 i 10 (-1)) 3 i 9 (gF X 1 0 2)) 3 i 11 (-1)) := by unfold arvC; rw [if_pos ⟨c1, c2⟩, if_neg c3, if_pos c4]
          have eY : arvM Y i = (sA (sA (sA Y 206 0 (i) (3)) 213 0 (i) ((gF Y 12 0 0))) 214 0 (i) (-1)) := by unfold arvM; rw [if_pos cM, if_neg (by omega), if_neg (by omega)]
          rw [eX, eY]
          refine ⟨⟨iL, ⟨iP.1, iP.2.1, iP.2.2.1, fun x a b => ?_⟩, ?_, iF, iO, iE, iT, iR, iB, iX, iH, iG, iQ, iN, iA, ?_⟩, fun _ _ z => by omega⟩
          · by_cases e : x = i
            · subst e
              unfold pers1
              simp only [gF_sF, gF_sA, gF_uA, gF_sD, gA_sF, gA_sA, gA_uA, gA_sD, gD_sF, gD_sA, gD_uA, gD_sD, Nat.reduceEqDiff, reduceCtorEq, false_and, and_false, true_and, and_true, ite_true, ite_false, if_true, if_false, ↓reduceIte, and_self, ed, emp]
              refine ⟨by first | assumption | omega | exact fun q => absurd q (by decide) | exact fun _ => trivial | exact fun _ => rfl | (intro _; omega), by first | assumption | omega | exact fun q => absurd q (by decide) | exact fun _ => trivial | exact fun _ => rfl | (intro _; omega), by first | assumption | omega | exact fun q => absurd q (by decide) | exact fun _ => trivial | exact fun _ => rfl | (intro _; omega), by first | assumption | omega | exact fun q => absurd q (by decide) | exact fun _ => trivial | exact fun _ => rfl | (intro _; omega), by first | assumption | omega | exact fun q => absurd q (by decide) | exact fun _ => trivial | exact fun _ => rfl | (intro _; omega), by first | assumption | omega | exact fun q => absurd q (by decide) | exact fun _ => trivial | exact fun _ => rfl | (intro _; omega), by first | assumption | omega | exact fun q => absurd q (by decide) | exact fun _ => trivial | exact fun _ => rfl | (intro _; omega), by first | assumption | omega | exact fun q => absurd q (by decide) | exact fun _ => trivial | exact fun _ => rfl | (intro _; omega), by first | assumption | omega | exact fun q => absurd q (by decide) | exact fun _ => trivial | exact fun _ => rfl | (intro _; omega), by first | assumption | omega | exact fun q => absurd q (by decide) | exact fun _ => trivial | exact fun _ => rfl | (intro _; omega), by first | assumption | omega | exact fun q => absurd q (by decide) | exact fun _ => trivial | exact fun _ => rfl | (intro _; omega), by first | assumption | omega | exact fun q => absurd q (by decide) | exact fun _ => trivial | exact fun _ => rfl | (intro _; omega), by first | assumption | omega | exact fun q => absurd q (by decide) | exact fun _ => trivial | exact fun _ => rfl | (intro _; omega), by first | assumption | omega | exact fun q => absurd q (by decide) | exact fun _ => trivial | exact fun _ => rfl | (intro _; omega)⟩
            · have h := pers1_q (r := i + 1) (iP.2.2.2 x a b) (by omega)
              unfold pers1 at h ⊢
              simp only [gF_sF, gF_sA, gF_uA, gF_sD, gA_sF, gA_sA, gA_uA, gA_sD, gD_sF, gD_sA, gD_uA, gD_sD, Nat.reduceEqDiff, reduceCtorEq, false_and, and_false, true_and, and_true, ite_true, ite_false, if_true, if_false, ↓reduceIte, and_self, e]
              exact h
          · refine ⟨⟨iS.1.1, iS.1.2.1, ?_⟩, fun s x y => ?_⟩
            · have hm : cnt (owP (sF (sF (sF (sF X 3 i 8 (3)) 3 i 10 (-1)) 3 i 9 (gF X 1 0 2)) 3 i 11 (-1))) (gF X 1 0 1) ≤ cnt (owP X) (gF X 1 0 1) := cnt_mono iP_sz fun x a b q => by
                unfold owP at q ⊢
                by_cases e : x = i
                · subst e
                  revert q
                  simp only [gF_sF, gF_sA, gF_uA, gF_sD, gA_sF, gA_sA, gA_uA, gA_sD, gD_sF, gD_sA, gD_uA, gD_sD, Nat.reduceEqDiff, reduceCtorEq, false_and, and_false, true_and, and_true, ite_true, ite_false, if_true, if_false, ↓reduceIte, and_self]
                  intro q
                  omega
                · revert q
                  simp only [gF_sF, gF_sA, gF_uA, gF_sD, gA_sF, gA_sA, gA_uA, gA_sD, gD_sF, gD_sA, gD_uA, gD_sD, Nat.reduceEqDiff, reduceCtorEq, false_and, and_false, true_and, and_true, ite_true, ite_false, if_true, if_false, ↓reduceIte, and_self, e]
                  exact id
              show (gF X 1 0 3) + cnt (owP (sF (sF (sF (sF X 3 i 8 (3)) 3 i 10 (-1)) 3 i 9 (gF X 1 0 2)) 3 i 11 (-1))) (gF X 1 0 1) ≤ 400
              omega
            · have h := iS.2 s x y
              by_cases eo : (gA X 32 0 (s)) = i
              · unfold stay1 at h ⊢
                have h5 := h.2.2.2.2
                rw [eo] at h5
                refine ⟨h.1, h.2.1, h.2.2.1, h.2.2.2.1, Or.inr ?_⟩
                show 0 ≤ (gA X 35 0 (s)) ∧ (gA X 35 0 (s)) ≤ (gF X 1 0 2)
                omega
              · unfold stay1 at h ⊢
                simp only [gF_sF, gF_sA, gF_uA, gF_sD, gA_sF, gA_sA, gA_uA, gA_sD, gD_sF, gD_sA, gD_uA, gD_sD, Nat.reduceEqDiff, reduceCtorEq, false_and, and_false, true_and, and_true, ite_true, ite_false, if_true, if_false, ↓reduceIte, and_self, eo]
                exact h
          · refine ISide_one (p := i) iJ rfl rfl (fun x e => ⟨by simp only [gF_sF, gF_sA, gF_uA, gF_sD, gA_sF, gA_sA, gA_uA, gA_sD, gD_sF, gD_sA, gD_uA, gD_sD, Nat.reduceEqDiff, reduceCtorEq, false_and, and_false, true_and, and_true, ite_true, ite_false, if_true, if_false, ↓reduceIte, and_self, e], by simp only [gF_sF, gF_sA, gF_uA, gF_sD, gA_sF, gA_sA, gA_uA, gA_sD, gD_sF, gD_sA, gD_uA, gD_sD, Nat.reduceEqDiff, reduceCtorEq, false_and, and_false, true_and, and_true, ite_true, ite_false, if_true, if_false, ↓reduceIte, and_self, e], by simp only [gF_sF, gF_sA, gF_uA, gF_sD, gA_sF, gA_sA, gA_uA, gA_sD, gD_sF, gD_sA, gD_uA, gD_sD, Nat.reduceEqDiff, reduceCtorEq, false_and, and_false, true_and, and_true, ite_true, ite_false, if_true, if_false, ↓reduceIte, and_self, e]⟩) ?_
            have hj := iJ i h0 h1
            unfold sideOk at hj ⊢
            simp only [gF_sF, gF_sA, gF_uA, gF_sD, gA_sF, gA_sA, gA_uA, gA_sD, gD_sF, gD_sA, gD_uA, gD_sD, Nat.reduceEqDiff, reduceCtorEq, false_and, and_false, true_and, and_true, ite_true, ite_false, if_true, if_false, ↓reduceIte, and_self]
            first | done | (exact ⟨fun z => by omega, fun z => by omega⟩) | (exact ⟨fun _ => hj.2 c1 (by omega), fun z => by omega⟩) | (intro z; omega) | exact hj.2 c1 (by omega)
        · have how : 1 ≤ cnt (owP X) (gF X 1 0 1) := by
            have := cnt_ins (p := fun _ => False) (q := fun x => x = i) h0 h1 (fun q => q) (fun x => ⟨Or.inr, fun q => q.elim False.elim id⟩)
            have h8 := cnt_none (p := fun _ => False) iP_sz (fun _ _ _ q => q)
            have h9 : cnt (fun x => x = i) (gF X 1 0 1) ≤ cnt (owP X) (gF X 1 0 1) := cnt_mono iP_sz fun x a b q => by subst q; exact ⟨c1, by omega⟩
            omega
          have eX : arvC X i = (sF (sA (sA (sA (sA (sF (sF (sF (sF X 3 i 8 (0)) 3 i 10 ((gF X 3 (i) 10))) 3 i 9 (gF X 1 0 2)) 3 i 11 (-1)) 32 0 (gF X 1 0 3) i) 33 0 (gF X 1 0 3) (gF X 3 (i) 10)) 34 0 (gF X 1 0 3) (gF X 1 0 2)) 35 0 (gF X 1 0 3) (-1)) 1 0 3 ((gF X 1 0 3) + 1)) := by unfold arvC; rw [if_pos ⟨c1, c2⟩, if_neg c3, if_neg c4, if_pos (by omega)]
          have eY : arvM Y i = (sF (sA (sA (sA (sA (sA (sA (sA (sA Y 206 0 (i) (0)) 207 0 (i) ((gA Y 207 0 (i)))) 213 0 (i) ((gF Y 12 0 0))) 214 0 (i) (-1)) 215 0 ((gF Y 12 0 22)) (i)) 216 0 ((gF Y 12 0 22)) ((gA Y 207 0 (i)))) 217 0 ((gF Y 12 0 22)) ((gF Y 12 0 0))) 218 0 ((gF Y 12 0 22)) (-1)) 12 0 22 ((gF Y 12 0 22) + 1)) := by unfold arvM; rw [if_pos cM, if_pos (by omega), if_pos (by omega)]
          rw [eX, eY]
          refine ⟨⟨iL, ⟨iP.1, iP.2.1, iP.2.2.1, fun x a b => ?_⟩, ?_, iF, iO, iE, iT, iR, iB, iX, iH, iG, iQ, iN, iA, ?_⟩, fun _ _ _ => by omega⟩
          · by_cases e : x = i
            · subst e
              unfold pers1
              simp only [gF_sF, gF_sA, gF_uA, gF_sD, gA_sF, gA_sA, gA_uA, gA_sD, gD_sF, gD_sA, gD_uA, gD_sD, Nat.reduceEqDiff, reduceCtorEq, false_and, and_false, true_and, and_true, ite_true, ite_false, if_true, if_false, ↓reduceIte, and_self, ed, emp]
              refine ⟨by first | assumption | omega | exact fun q => absurd q (by decide) | exact fun _ => trivial | exact fun _ => rfl | (intro _; omega), by first | assumption | omega | exact fun q => absurd q (by decide) | exact fun _ => trivial | exact fun _ => rfl | (intro _; omega), by first | assumption | omega | exact fun q => absurd q (by decide) | exact fun _ => trivial | exact fun _ => rfl | (intro _; omega), by first | assumption | omega | exact fun q => absurd q (by decide) | exact fun _ => trivial | exact fun _ => rfl | (intro _; omega), by first | assumption | omega | exact fun q => absurd q (by decide) | exact fun _ => trivial | exact fun _ => rfl | (intro _; omega), by first | assumption | omega | exact fun q => absurd q (by decide) | exact fun _ => trivial | exact fun _ => rfl | (intro _; omega), by first | assumption | omega | exact fun q => absurd q (by decide) | exact fun _ => trivial | exact fun _ => rfl | (intro _; omega), by first | assumption | omega | exact fun q => absurd q (by decide) | exact fun _ => trivial | exact fun _ => rfl | (intro _; omega), by first | assumption | omega | exact fun q => absurd q (by decide) | exact fun _ => trivial | exact fun _ => rfl | (intro _; omega), by first | assumption | omega | exact fun q => absurd q (by decide) | exact fun _ => trivial | exact fun _ => rfl | (intro _; omega), by first | assumption | omega | exact fun q => absurd q (by decide) | exact fun _ => trivial | exact fun _ => rfl | (intro _; omega), by first | assumption | omega | exact fun q => absurd q (by decide) | exact fun _ => trivial | exact fun _ => rfl | (intro _; omega), by first | assumption | omega | exact fun q => absurd q (by decide) | exact fun _ => trivial | exact fun _ => rfl | (intro _; omega), by first | assumption | omega | exact fun q => absurd q (by decide) | exact fun _ => trivial | exact fun _ => rfl | (intro _; omega)⟩
            · have h := pers1_q (r := i + 1) (iP.2.2.2 x a b) (by omega)
              unfold pers1 at h ⊢
              simp only [gF_sF, gF_sA, gF_uA, gF_sD, gA_sF, gA_sA, gA_uA, gA_sD, gD_sF, gD_sA, gD_uA, gD_sD, Nat.reduceEqDiff, reduceCtorEq, false_and, and_false, true_and, and_true, ite_true, ite_false, if_true, if_false, ↓reduceIte, and_self, e]
              exact h
          · have hm : cnt (owP X) (gF X 1 0 1) = cnt (owP (sF (sA (sA (sA (sA (sF (sF (sF (sF X 3 i 8 (0)) 3 i 10 ((gF X 3 (i) 10))) 3 i 9 (gF X 1 0 2)) 3 i 11 (-1)) 32 0 (gF X 1 0 3) i) 33 0 (gF X 1 0 3) (gF X 3 (i) 10)) 34 0 (gF X 1 0 3) (gF X 1 0 2)) 35 0 (gF X 1 0 3) (-1)) 1 0 3 ((gF X 1 0 3) + 1))) (gF X 1 0 1) + 1 := cnt_ins h0 h1 (by unfold owP; simp only [gF_sF, gF_sA, gF_uA, gF_sD, gA_sF, gA_sA, gA_uA, gA_sD, gD_sF, gD_sA, gD_uA, gD_sD, Nat.reduceEqDiff, reduceCtorEq, false_and, and_false, true_and, and_true, ite_true, ite_false, if_true, if_false, ↓reduceIte, and_self]; omega) (fun x => by
                unfold owP
                by_cases e : x = i
                · subst e
                  simp only [gF_sF, gF_sA, gF_uA, gF_sD, gA_sF, gA_sA, gA_uA, gA_sD, gD_sF, gD_sA, gD_uA, gD_sD, Nat.reduceEqDiff, reduceCtorEq, false_and, and_false, true_and, and_true, ite_true, ite_false, if_true, if_false, ↓reduceIte, and_self]
                  constructor
                  · intro _; exact Or.inr trivial
                  · intro _; exact ⟨c1, by omega⟩
                · simp only [gF_sF, gF_sA, gF_uA, gF_sD, gA_sF, gA_sA, gA_uA, gA_sD, gD_sF, gD_sA, gD_uA, gD_sD, Nat.reduceEqDiff, reduceCtorEq, false_and, and_false, true_and, and_true, ite_true, ite_false, if_true, if_false, ↓reduceIte, and_self, e]; constructor
                  · exact Or.inl
                  · intro q; exact q.elim id False.elim)
            refine ⟨⟨by simp only [gF_sF, gF_sA, gF_uA, gF_sD, gA_sF, gA_sA, gA_uA, gA_sD, gD_sF, gD_sA, gD_uA, gD_sD, Nat.reduceEqDiff, reduceCtorEq, false_and, and_false, true_and, and_true, ite_true, ite_false, if_true, if_false, ↓reduceIte, and_self]; omega, by simp only [gF_sF, gF_sA, gF_uA, gF_sD, gA_sF, gA_sA, gA_uA, gA_sD, gD_sF, gD_sA, gD_uA, gD_sD, Nat.reduceEqDiff, reduceCtorEq, false_and, and_false, true_and, and_true, ite_true, ite_false, if_true, if_false, ↓reduceIte, and_self]; omega, ?_⟩, ?_⟩
            · show (gF X 1 0 3) + 1 + cnt (owP (sF (sA (sA (sA (sA (sF (sF (sF (sF X 3 i 8 (0)) 3 i 10 ((gF X 3 (i) 10))) 3 i 9 (gF X 1 0 2)) 3 i 11 (-1)) 32 0 (gF X 1 0 3) i) 33 0 (gF X 1 0 3) (gF X 3 (i) 10)) 34 0 (gF X 1 0 3) (gF X 1 0 2)) 35 0 (gF X 1 0 3) (-1)) 1 0 3 ((gF X 1 0 3) + 1))) (gF X 1 0 1) ≤ 400
              omega
            · simp only [gF_sF, gF_sA, gF_uA, gF_sD, gA_sF, gA_sA, gA_uA, gA_sD, gD_sF, gD_sA, gD_uA, gD_sD, Nat.reduceEqDiff, reduceCtorEq, false_and, and_false, true_and, and_true, ite_true, ite_false, if_true, if_false, ↓reduceIte, and_self]
              refine all_s (fun s x y => ?_) ?_
              · have e : s ≠ (gF X 1 0 3) := by omega
                have h := iS.2 s x y
                by_cases eo : (gA X 32 0 (s)) = i
                · unfold stay1 at h ⊢
                  rw [eo] at h
                  simp only [gF_sF, gF_sA, gF_uA, gF_sD, gA_sF, gA_sA, gA_uA, gA_sD, gD_sF, gD_sA, gD_uA, gD_sD, Nat.reduceEqDiff, reduceCtorEq, false_and, and_false, true_and, and_true, ite_true, ite_false, if_true, if_false, ↓reduceIte, and_self, e, es, eo]
                  have h5 := h.2.2.2.2
                  exact ⟨h.1, h.2.1, h.2.2.1, h.2.2.2.1, Or.inr (by omega)⟩
                · unfold stay1 at h ⊢
                  simp only [gF_sF, gF_sA, gF_uA, gF_sD, gA_sF, gA_sA, gA_uA, gA_sD, gD_sF, gD_sA, gD_uA, gD_sD, Nat.reduceEqDiff, reduceCtorEq, false_and, and_false, true_and, and_true, ite_true, ite_false, if_true, if_false, ↓reduceIte, and_self, e, es, eo]
                  exact h
              · unfold stay1
                simp only [gF_sF, gF_sA, gF_uA, gF_sD, gA_sF, gA_sA, gA_uA, gA_sD, gD_sF, gD_sA, gD_uA, gD_sD, Nat.reduceEqDiff, reduceCtorEq, false_and, and_false, true_and, and_true, ite_true, ite_false, if_true, if_false, ↓reduceIte, and_self, es, ed, emp]
                refine ⟨by omega, by omega, Or.inl trivial⟩
          · refine ISide_one (p := i) iJ rfl rfl (fun x e => ⟨by simp only [gF_sF, gF_sA, gF_uA, gF_sD, gA_sF, gA_sA, gA_uA, gA_sD, gD_sF, gD_sA, gD_uA, gD_sD, Nat.reduceEqDiff, reduceCtorEq, false_and, and_false, true_and, and_true, ite_true, ite_false, if_true, if_false, ↓reduceIte, and_self, e], by simp only [gF_sF, gF_sA, gF_uA, gF_sD, gA_sF, gA_sA, gA_uA, gA_sD, gD_sF, gD_sA, gD_uA, gD_sD, Nat.reduceEqDiff, reduceCtorEq, false_and, and_false, true_and, and_true, ite_true, ite_false, if_true, if_false, ↓reduceIte, and_self, e], by simp only [gF_sF, gF_sA, gF_uA, gF_sD, gA_sF, gA_sA, gA_uA, gA_sD, gD_sF, gD_sA, gD_uA, gD_sD, Nat.reduceEqDiff, reduceCtorEq, false_and, and_false, true_and, and_true, ite_true, ite_false, if_true, if_false, ↓reduceIte, and_self, e]⟩) ?_
            have hj := iJ i h0 h1
            unfold sideOk at hj ⊢
            simp only [gF_sF, gF_sA, gF_uA, gF_sD, gA_sF, gA_sA, gA_uA, gA_sD, gD_sF, gD_sA, gD_uA, gD_sD, Nat.reduceEqDiff, reduceCtorEq, false_and, and_false, true_and, and_true, ite_true, ite_false, if_true, if_false, ↓reduceIte, and_self]
            first | done | (exact ⟨fun z => by omega, fun z => by omega⟩) | (exact ⟨fun _ => hj.2 c1 (by omega), fun z => by omega⟩) | (intro z; omega) | exact hj.2 c1 (by omega)
    · have eX : arvC X i = X := by unfold arvC; rw [if_neg (by omega)]
      have eY : arvM Y i = Y := by unfold arvM; rw [if_neg (by omega)]
      rw [eX, eY]
      exact ⟨same (fun _ => by omega), fun _ q => by omega⟩
  · have eX : arvC X i = X := by unfold arvC; rw [if_neg (by omega)]
    have eY : arvM Y i = Y := by unfold arvM; rw [if_neg (by omega)]
    rw [eX, eY]
    exact ⟨same (fun q => absurd q c1), fun q => by omega⟩
