theorem rowsC_of {X Y : PH} (iR : IRow X Y) : rowsC X := fun r a b => by
  obtain ⟨-, ⟨w1, w2, w3, -⟩, ⟨-, h1, h2⟩, -, h3, h4⟩ := iR.2.1 r a b
  exact ⟨by omega, fun j x y => ⟨(w3 j x y).1, (w3 j x y).2.1⟩, ⟨h1, h2⟩, h3, h4⟩
theorem rowsM_of {X Y : PH} (iR : IRow X Y) : rowsM Y (gA X 50 0) := fun r a b => by
  rw [iR.1.1] at b
  obtain ⟨-, hw, ⟨e1, h1, h2⟩, e2, h3, h4⟩ := iR.2.1 r a b
  have := hw.1
  have := hw.2.1
  exact ⟨⟨by omega, by omega, (word_of hw).1⟩, by omega, by omega, by omega⟩
theorem ze_XY {X Y : PH} (iR : IRow X Y) {a b : Int} (ha : 0 ≤ a ∧ a < (gF X 5 0 0)) : zeM Y a b = zeC X a b ∧ onM Y a b = onC X a b := by
  have h := (iR.2.1 a ha.1 ha.2).1.1
  unfold zeM zeC onM onC
  rw [h]
  exact ⟨rfl, rfl⟩
theorem ze_in {X : PH} {a b : Int} : (zeC X a b = a ∧ onC X a b = b) ∨ (zeC X a b = b ∧ onC X a b = a) := by
  unfold zeC onC
  by_cases e : (gA X 47 0 (a)) = 0
  · rw [if_pos e, if_pos e]; exact Or.inl ⟨rfl, rfl⟩
  · rw [if_neg e, if_neg e]; exact Or.inr ⟨rfl, rfl⟩
theorem dig_XY {X Y : PH} (iR : IRow X Y) {r j : Int} (hr : 0 ≤ r ∧ r < (gF X 5 0 0)) (hj : 0 ≤ j ∧ j < (gA X 50 0 (r))) : lft (gA Y 237 0 (r)) j % 28 = (gA X 49 (r) (j)) ∧ 1 ≤ (gA X 49 (r) (j)) ∧ (gA X 49 (r) (j)) ≤ 27 := by
  have hw := (iR.2.1 r hr.1 hr.2).2.1
  have h5 := hw.2.1
  have h := (word_of hw).2 j hj.1 (by omega)
  have h2 := hw.2.2.1 j hj.1 (by omega)
  exact ⟨h, h2.2.2.1 hj.2, h2.2.1⟩
theorem why_XY {X Y : PH} (iR : IRow X Y) {a b : Int} (ha : 0 ≤ a ∧ a < (gF X 5 0 0)) (hb : 0 ≤ b ∧ b < (gF X 5 0 0)) : whyM Y (gA X 50 0) a b = whyC X a b := by
  obtain ⟨e1, e2⟩ := ze_XY (b := b) iR ha
  have hz : 0 ≤ zeC X a b ∧ zeC X a b < (gF X 5 0 0) := by rcases ze_in (X := X) (a := a) (b := b) with q | q <;> rw [q.1] <;> assumption
  have ho : 0 ≤ onC X a b ∧ onC X a b < (gF X 5 0 0) := by rcases ze_in (X := X) (a := a) (b := b) with q | q <;> rw [q.2] <;> assumption
  have h1 := iR.2.1 a ha.1 ha.2
  have h2 := iR.2.1 b hb.1 hb.2
  unfold whyM whyC
  refine why_eq ?_ (fun hl => ?_) ?_ ?_
  · unfold lenM lenC; rw [e1, e2]
  · unfold fitM fitC; rw [e1, e2]
    refine forall_congr' fun j => forall_congr' fun j0 => forall_congr' fun j1 => ?_
    obtain ⟨d1, d2, d3⟩ := dig_XY iR hz ⟨j0, j1⟩
    obtain ⟨d4, d5, d6⟩ := dig_XY (j := j) iR ho ⟨j0, by unfold lenC at hl; omega⟩
    unfold fit1M fit1C
    rw [d1, d4]
    by_cases n1 : (gA X 49 (zeC X a b) (j)) = 27
    · exact ⟨fun _ => Or.inl n1, fun _ => Or.inl n1⟩
    by_cases n2 : (gA X 49 (onC X a b) (j)) = 27
    · exact ⟨fun _ => Or.inr (Or.inl n2), fun _ => Or.inr (Or.inl n2)⟩
    rw [(iR.2.2 _ _ d2 (by omega) d5 (by omega)).1]
  · unfold ageM ageC
    rw [e1, e2]
    rcases ze_in (X := X) (a := a) (b := b) with q | q <;> rw [q.1, q.2, h1.2.2.1.1, h2.2.2.1.1] <;> omega
  · unfold untM untC
    rw [e1, e2]
    rcases ze_in (X := X) (a := a) (b := b) with q | q <;> rw [q.1, q.2, h1.2.2.2.1, h2.2.2.2.1] <;> omega
theorem sam_XY {X Y : PH} (iR : IRow X Y) {a b k : Int} (ha : 0 ≤ a ∧ a < (gF X 5 0 0)) (hb : 0 ≤ b ∧ b < (gF X 5 0 0)) : samM Y (gA X 50 0) k a b = sameV k (whyC X a b) (whoC X a ∧ whoC X b) := by
  unfold samM
  rw [why_XY iR ha hb]
  by_cases e : whyC X a b = 0
  · have hl : lenC X a b := Classical.byContradiction fun n => by unfold whyC at e; rw [why_1 n] at e; omega
    have h1 := iR.2.1 a ha.1 ha.2
    have h2 := iR.2.1 b hb.1 hb.2
    have hw : whoM Y (gA X 50 0) a b ↔ (whoC X a ∧ whoC X b) := by
      obtain ⟨e1, e2⟩ := ze_XY (b := b) iR ha
      have hln : (gA X 50 0 (a)) = (gA X 50 0 (b)) := by
        unfold lenC at hl
        rcases ze_in (X := X) (a := a) (b := b) with q | q <;> rw [q.1, q.2] at hl <;> omega
      have hred : redM Y (gA X 50 0) a b ↔ ((∀ j, 0 ≤ j → j < (gA X 50 0 (a)) → (gA X 49 (a) (j)) ≠ 27) ∧ ∀ j, 0 ≤ j → j < (gA X 50 0 (b)) → (gA X 49 (b) (j)) ≠ 27) := by
        unfold redM red1M
        rw [e1, e2]
        have hda := fun j j0 j1 => (dig_XY iR (j := j) ha ⟨j0, j1⟩).1
        have hdb := fun j j0 j1 => (dig_XY iR (j := j) hb ⟨j0, j1⟩).1
        rcases ze_in (X := X) (a := a) (b := b) with q | q <;> rw [q.1, q.2]
        · exact ⟨fun f => ⟨fun j j0 j1 => by rw [← hda j j0 j1]; exact (f j j0 j1).1, fun j j0 j1 => by rw [← hdb j j0 j1]; exact (f j j0 (by show j < (gA X 50 0 (a)); omega)).2⟩, fun f j j0 j1 => ⟨by rw [hda j j0 j1]; exact f.1 j j0 j1, by rw [hdb j j0 (by rw [← hln]; exact j1)]; exact f.2 j j0 (by rw [← hln]; exact j1)⟩⟩
        · exact ⟨fun f => ⟨fun j j0 j1 => by rw [← hda j j0 j1]; exact (f j j0 (by show j < (gA X 50 0 (b)); omega)).2, fun j j0 j1 => by rw [← hdb j j0 j1]; exact (f j j0 j1).1⟩, fun f j j0 j1 => ⟨by rw [hdb j j0 j1]; exact f.2 j j0 j1, by rw [hda j j0 (by rw [hln]; exact j1)]; exact f.1 j j0 (by rw [hln]; exact j1)⟩⟩
      unfold whoM whoC
      rw [hred, h1.2.2.1.1, h2.2.2.1.1, h1.2.2.2.1, h2.2.2.2.1]
      exact ⟨fun q => ⟨⟨q.1.1, q.2.1, q.2.2.2.1⟩, q.1.2, q.2.2.1, q.2.2.2.2⟩, fun q => ⟨⟨q.1.1, q.2.1⟩, q.1.2.1, q.2.2.1, q.1.2.2, q.2.2.2⟩⟩
    rw [propext hw]
  · unfold sameV
    rw [if_neg e, if_neg e]
theorem same_2 {y : Int} {c : Prop} : sameV 0 y c = 2 ↔ y = 0 ∧ c := by
  unfold sameV
  rw [if_neg (by decide)]
  by_cases e : y = 0
  · rw [if_pos e]
    refine ⟨fun q => ⟨e, b2i_eq1.mp (by omega)⟩, fun q => by rw [b2i_t q.2]; rfl⟩
  · rw [if_neg e]
    exact ⟨fun q => by omega, fun q => absurd q.1 e⟩
theorem sur_XY {X Y : PH} (iR : IRow X Y) {a b : Int} (ha : 0 ≤ a ∧ a < (gF X 5 0 0)) (hb : 0 ≤ b ∧ b < (gF X 5 0 0)) : surM Y (gA X 50 0) a b ↔ surC X a b := by
  unfold surM surC
  rw [sam_XY iR ha hb, same_2, (iR.2.1 a ha.1 ha.2).1.1, (iR.2.1 b hb.1 hb.2).1.1]
  exact ⟨fun q => ⟨q.1, q.2.2.1, q.2.2.2, q.2.1⟩, fun q => ⟨q.1, q.2.2.2, q.2.1, q.2.2.1⟩⟩
theorem apt_XY {X Y : PH} (iR : IRow X Y) {a b : Int} (ha : 0 ≤ a ∧ a < (gF X 5 0 0)) (hb : 0 ≤ b ∧ b < (gF X 5 0 0)) : aptM Y (gA X 50 0) a b ↔ aptC X a b := by
  have h1 := iR.2.1 a ha.1 ha.2
  have h2 := iR.2.1 b hb.1 hb.2
  unfold aptM aptC ageM ageC untM untC
  rw [why_XY iR ha hb, h1.1.1, h2.1.1, h1.2.2.1.1, h2.2.2.1.1, h1.2.2.2.1, h2.2.2.2.1]
  omega
theorem sur_sym {X Y : PH} (iR : IRow X Y) : symE (surC X) (gF X 5 0 0) := fun a b a0 a1 b0 b1 h => by
  obtain ⟨h1, h2, h3, h4⟩ := h
  refine ⟨fun e => h1 e.symm, h3, h2, ?_⟩
  have ha := (iR.2.1 a a0 a1).1
  have hb := (iR.2.1 b b0 b1).1
  have e1 : zeC X b a = zeC X a b ∧ onC X b a = onC X a b := by
    unfold zeC onC
    by_cases e : (gA X 47 0 (a)) = 0
    · rw [if_pos e, if_neg (by omega), if_pos e, if_neg (by omega)]; exact ⟨rfl, rfl⟩
    · rw [if_neg e, if_pos (by omega), if_neg e, if_pos (by omega)]; exact ⟨rfl, rfl⟩
  rw [← h4]
  unfold whyC
  refine why_eq ?_ (fun _ => ?_) ?_ ?_
  · unfold lenC; rw [e1.1, e1.2]
  · unfold fitC; rw [e1.1, e1.2]
  · unfold ageC; omega
  · unfold untC; omega




set_option maxRecDepth 10000 in
theorem call_same {l : Launch} {w : Wo} {d : Nat} {G : PH} (hI : Inv w.1.2 G G) {a : Int} {b : Int} {k : Int} : CallOk l w d M_X11_same M_X12_same [some (vR 11 (0)), some (vI (a)), some (vI (b)), some (vI (k))] [some (vR 12 (0)), some (vI (a)), some (vI (b)), some (vI (k))] G := by
  obtain ⟨iL, iP, iS, iF, iO, iE, iT, iR, iB, iX, iH, iG, iQ, iN, iA, iJ⟩ := hI
  have hrw : 0 ≤ (gF G 5 0 0) ∧ (gF G 5 0 0) ≤ 100 := iR.1.2
  have er : (gF G 12 0 55) = (gF G 5 0 0) := iR.1.1
  have mhrw : 0 ≤ (gF G 12 0 55) ∧ (gF G 12 0 55) ≤ 100 := by omega
  have hrc : rowsC G := rowsC_of iR
  have mhrm : rowsM G (gA G 50 0) := rowsM_of iR
  have hsy := sur_sym iR
  have hsd : (0 ≤ a ∧ a < (gF G 5 0 0)) → (gA G 236 0 (a)) = (gA G 47 0 (a)) := fun h => (iR.2.1 a h.1 h.2).1.1
  have hsd2 : (0 ≤ b ∧ b < (gF G 5 0 0)) → (gA G 236 0 (b)) = (gA G 47 0 (b)) := fun h => (iR.2.1 b h.1 h.2).1.1
  unfold CallOk CallPhi
  refine sp_X11_same (d := d + 996) (by first | assumption | exact hrw | omega) (by first | assumption | exact hrc | omega) ?_ ?_
  · intro c1
    refine sp_X12_same (d := d + 997) (by first | assumption | exact mhrw | omega) (mhrm) ?_ ?_
    · intro m1
      replace m1 : ¬ ((0 ≤ a ∧ a < (gF G 12 (0) 55)) ∧ (0 ≤ b ∧ b < (gF G 12 (0) 55)) ∧ (gA G 236 (0) (a)) ≠ (gA G 236 (0) (b)) ∧ 0 ≤ k ∧ k ≤ 1) := m1
      exact ⟨⟨rfl, _, rfl⟩, iL, iP, iS, iF, iO, iE, iT, iR, iB, iX, iH, iG, iQ, iN, iA, iJ⟩
    · intro m1 r
      replace m1 : ((0 ≤ a ∧ a < (gF G 12 (0) 55)) ∧ (0 ≤ b ∧ b < (gF G 12 (0) 55)) ∧ (gA G 236 (0) (a)) ≠ (gA G 236 (0) (b)) ∧ 0 ≤ k ∧ k ≤ 1) := m1
      exfalso; omega
  · intro c1
    refine sp_X12_same (d := d + 997) (by first | assumption | exact mhrw | omega) (mhrm) ?_ ?_
    · intro m1
      replace m1 : ¬ ((0 ≤ a ∧ a < (gF G 12 (0) 55)) ∧ (0 ≤ b ∧ b < (gF G 12 (0) 55)) ∧ (gA G 236 (0) (a)) ≠ (gA G 236 (0) (b)) ∧ 0 ≤ k ∧ k ≤ 1) := m1
      exfalso; omega
    · intro m1 r
      replace m1 : ((0 ≤ a ∧ a < (gF G 12 (0) 55)) ∧ (0 ≤ b ∧ b < (gF G 12 (0) 55)) ∧ (gA G 236 (0) (a)) ≠ (gA G 236 (0) (b)) ∧ 0 ≤ k ∧ k ≤ 1) := m1
      show (some (vI (samM G (gA G 50 0) k a b)) = some (vI (sameV k (whyC G a b) (whoC G a ∧ whoC G b))) ∧ ∃ vz, some (vI (sameV k (whyC G a b) (whoC G a ∧ whoC G b))) = some (vI vz)) ∧ Inv w.1.2 (sF G 12 (0) 58 (r)) (sF G 12 (0) 58 (r))
      have ea := sam_XY iR (k := k) c1.1 c1.2.1
      exact ⟨⟨congrArg (fun q => some (vI q)) ea, _, rfl⟩, iL, iP, iS, iF, iO, iE, iT, iR, iB, iX, iH, iG, iQ, iN, iA, iJ⟩
set_option maxRecDepth 10000 in
theorem call_joined {l : Launch} {w : Wo} {d : Nat} {G : PH} (hI : Inv w.1.2 G G) {r : Int} : CallOk l w d M_X11_joined M_X12_joined [some (vR 11 (0)), some (vI (r))] [some (vR 12 (0)), some (vI (r)), none, none] G := by
  obtain ⟨iL, iP, iS, iF, iO, iE, iT, iR, iB, iX, iH, iG, iQ, iN, iA, iJ⟩ := hI
  have hrw : 0 ≤ (gF G 5 0 0) ∧ (gF G 5 0 0) ≤ 100 := iR.1.2
  have er : (gF G 12 0 55) = (gF G 5 0 0) := iR.1.1
  have mhrw : 0 ≤ (gF G 12 0 55) ∧ (gF G 12 0 55) ≤ 100 := by omega
  have hrc : rowsC G := rowsC_of iR
  have mhrm : rowsM G (gA G 50 0) := rowsM_of iR
  have hsy := sur_sym iR
  unfold CallOk CallPhi
  refine sp_X11_joined (d := d + 993) (by first | assumption | exact hrw | omega) (by first | assumption | exact hrc | omega) (by first | assumption | exact hsy | omega) ?_ ?_
  · intro c1
    refine sp_X12_joined (d := d + 996) (by first | assumption | exact mhrw | omega) (mhrm) ?_ ?_
    · intro m1
      replace m1 : ¬ (0 ≤ r ∧ r < (gF G 12 (0) 55)) := m1
      exact ⟨⟨rfl, _, rfl⟩, iL, iP, iS, iF, iO, iE, iT, iR, iB, iX, iH, iG, iQ, iN, iA, iJ⟩
    · intro m1 J z
      replace m1 : (0 ≤ r ∧ r < (gF G 12 (0) 55)) := m1
      exfalso; omega
  · intro c1 F R
    refine sp_X12_joined (d := d + 996) (by first | assumption | exact mhrw | omega) (mhrm) ?_ ?_
    · intro m1
      replace m1 : ¬ (0 ≤ r ∧ r < (gF G 12 (0) 55)) := m1
      exfalso; omega
    · intro m1 J z
      replace m1 : (0 ≤ r ∧ r < (gF G 12 (0) 55)) := m1
      show (some (vI (cnt (fun k => Rch (surM (uA (uA G 54 (0) (F)) 55 (0) (R)) (gA G 50 0)) (gF G 12 (0) 55) r k) (gF G 12 (0) 55))) = some (vI (cnt (fun k => Rch (surC G) (gF G 5 0 0) r k) (gF G 5 0 0))) ∧ ∃ vz, some (vI (cnt (fun k => Rch (surC G) (gF G 5 0 0) r k) (gF G 5 0 0))) = some (vI vz)) ∧ Inv w.1.2 (sF (uA (uA (uA G 54 (0) (F)) 55 (0) (R)) 241 (0) (J)) 12 (0) 58 (z)) (sF (uA (uA (uA G 54 (0) (F)) 55 (0) (R)) 241 (0) (J)) 12 (0) 58 (z))
      have ea : cnt (fun k => Rch (surM G (gA G 50 0)) (gF G 12 0 55) r k) (gF G 12 0 55) = cnt (fun k => Rch (surC G) (gF G 5 0 0) r k) (gF G 5 0 0) := by rw [er]; exact cnt_congr fun k x y => Rch_congr fun u v u0 u1 v0 v1 => sur_XY iR ⟨u0, u1⟩ ⟨v0, v1⟩
      exact ⟨⟨congrArg (fun q => some (vI q)) ea, _, rfl⟩, iL, iP, iS, iF, iO, iE, iT, iR, iB, iX, iH, iG, iQ, iN, iA, iJ⟩
set_option maxRecDepth 10000 in
theorem call_clash {l : Launch} {w : Wo} {d : Nat} {G : PH} (hI : Inv w.1.2 G G) {k : Int} : CallOk l w d M_X11_clash M_X12_clash [some (vR 11 (0)), some (vI (k))] [some (vR 12 (0)), some (vI (k)), none, none, none, none, none] G := by
  obtain ⟨iL, iP, iS, iF, iO, iE, iT, iR, iB, iX, iH, iG, iQ, iN, iA, iJ⟩ := hI
  have hrw : 0 ≤ (gF G 5 0 0) ∧ (gF G 5 0 0) ≤ 100 := iR.1.2
  have er : (gF G 12 0 55) = (gF G 5 0 0) := iR.1.1
  have mhrw : 0 ≤ (gF G 12 0 55) ∧ (gF G 12 0 55) ≤ 100 := by omega
  have hrc : rowsC G := rowsC_of iR
  have mhrm : rowsM G (gA G 50 0) := rowsM_of iR
  have hsy := sur_sym iR
  unfold CallOk CallPhi
  refine sp_X11_clash (d := d + 993) (by first | assumption | exact hrw | omega) (by first | assumption | exact hrc | omega) (by first | assumption | exact hsy | omega) ?_ ?_
  · intro c1
    refine sp_X12_clash (d := d + 996) (by first | assumption | exact mhrw | omega) (mhrm) ?_ ?_
    · intro m1
      replace m1 : ¬ (0 ≤ k ∧ k ≤ 2) := m1
      exact ⟨⟨rfl, _, rfl⟩, iL, iP, iS, iF, iO, iE, iT, iR, iB, iX, iH, iG, iQ, iN, iA, iJ⟩
    · intro m1 J z v2 m2
      replace m1 : (0 ≤ k ∧ k ≤ 2) := m1
      replace m2 : clV (fun x y => Rch (surM G (gA G 50 0)) (gF G 12 (0) 55) x y ∧ aptM G (gA G 50 0) x y) (gF G 12 (0) 55) k v2 := m2
      exfalso; omega
  · intro c1 F R v c2
    refine sp_X12_clash (d := d + 996) (by first | assumption | exact mhrw | omega) (mhrm) ?_ ?_
    · intro m1
      replace m1 : ¬ (0 ≤ k ∧ k ≤ 2) := m1
      exfalso; omega
    · intro m1 J z v2 m2
      replace m1 : (0 ≤ k ∧ k ≤ 2) := m1
      replace m2 : clV (fun x y => Rch (surM (uA (uA G 54 (0) (F)) 55 (0) (R)) (gA G 50 0)) (gF G 12 (0) 55) x y ∧ aptM (uA (uA G 54 (0) (F)) 55 (0) (R)) (gA G 50 0) x y) (gF G 12 (0) 55) k v2 := m2
      show (some (vI v2) = some (vI v) ∧ ∃ vz, some (vI v) = some (vI vz)) ∧ Inv w.1.2 (sF (uA (uA (uA G 54 (0) (F)) 55 (0) (R)) 241 (0) (J)) 12 (0) 58 (z)) (sF (uA (uA (uA G 54 (0) (F)) 55 (0) (R)) 241 (0) (J)) 12 (0) 58 (z))
      replace m2 : clV (fun x y => Rch (surM G (gA G 50 0)) (gF G 12 0 55) x y ∧ aptM G (gA G 50 0) x y) (gF G 12 0 55) k v2 := m2
      rw [er] at m2
      have ea := clV_one hrw.1 (fun x y x0 xy y1 => (and_congr (Rch_congr fun u v u0 u1 v0 v1 => sur_XY iR ⟨u0, u1⟩ ⟨v0, v1⟩) (apt_XY iR ⟨x0, by omega⟩ ⟨by omega, y1⟩)).symm) c2 m2
      exact ⟨⟨congrArg (fun q => some (vI q)) ea, _, rfl⟩, iL, iP, iS, iF, iO, iE, iT, iR, iB, iX, iH, iG, iQ, iN, iA, iJ⟩
