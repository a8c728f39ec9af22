section TX
variable {np : Nat} {G : PH}
theorem tx_both (iT : IText G G) : txC G ∧ txM G := by
  have e := iT.1.1
  refine ⟨fun t a b => ?_, fun t a b => ?_⟩
  · obtain ⟨⟨h1, h2, h3⟩, h4, h5, h6, h7, h8⟩ := iT.2 t a b
    exact ⟨⟨h2, h3⟩, fun j c d => (h7 j c d).1, lns_ok h8⟩
  · obtain ⟨⟨h1, h2, h3⟩, h4, h5, h6, h7, h8⟩ := iT.2 t a (by omega)
    refine ⟨by omega, ?_⟩
    unfold lnM
    rw [h1]
    exact lns_ok h8
theorem ln_eq (iT : IText G G) {t : Int} (a : 0 ≤ t) (b : t < (gF G 8 0 0)) : lnM G t = lnC G t := by
  unfold lnC lnM
  rw [(iT.2 t a b).1.1]
theorem ci_eq (iP : IPers np 150 G G) {p t : Int} (hp : 0 ≤ p ∧ p < (gF G 1 0 1)) (hs : (gF G 3 (p) 8) = 0) : ciM G (gA G 207 0 (p)) t (gF G 12 0 17) = ciC G (gF G 3 (p) 10) t := by
  obtain ⟨p1, p2, p3, p4, p5, p6, p7, p8, p9, p10, p11, p12, p13, p14⟩ := iP.2.2.2 p hp.1 hp.2
  unfold ciM ciC
  rw [iP.1.2.2, (p11 hs).1]
  refine cnt_congr fun i a b => ?_
  obtain ⟨r1, r2, r3, r4, r5, r6, r7, r8, r9, r10, r11, r12, r13, r14⟩ := iP.2.2.2 i a b
  rw [r9.1, r2.1]
  constructor
  · rintro ⟨⟨h1, h2⟩, h3⟩
    exact ⟨⟨h1, by rw [← (r11 h1).1]; exact h2⟩, h3⟩
  · rintro ⟨⟨h1, h2⟩, h3⟩
    exact ⟨⟨h1, by rw [(r11 h1).1]; exact h2⟩, h3⟩
theorem kM_eq (iP : IPers np 150 G G) (iF : IFact G G) {z p s k : Int} (hz : 0 ≤ z ∧ z ≤ 1) (hp : 0 ≤ p ∧ p < (gF G 1 0 1)) (hs : 0 ≤ s ∧ s ≤ 2) (hk : k ≤ 600) : kM G z p s k = kC G z p s k := known_eq iP iF hz hp hs hk
theorem val_eq (iP : IPers np 150 G G) (iF : IFact G G) (iO : IProm G G) {z p d0 k : Int} (hz : 0 ≤ z ∧ z ≤ 1) (hp : 0 ≤ p ∧ p < (gF G 1 0 1)) (hk : k ≤ 600) : valM G z p d0 k = valC G z p d0 k := by
  have ci := fun t => ci_eq iP (t := t) hp
  obtain ⟨p1, p2, p3, p4, p5, p6, p7, p8, p9, p10, p11, p12, p13, p14⟩ := iP.2.2.2 p hp.1 hp.2
  have e1 := kM_eq iP iF (s := 0) hz hp (by omega) hk
  have e2 := kM_eq iP iF (s := 1) hz hp (by omega) hk
  have e3 := kM_eq iP iF (s := 2) hz hp (by omega) hk
  have e6 : ∀ x, brM G (1 - z) x = brC G (1 - z) x := fun x => broken_eq iP iO
  funext j
  unfold valM valC
  rw [p2.1, p4.1, p6.1, p9.1, iP.2.1.1, e1, e2, e3, e6]
  by_cases hs : (gF G 3 (p) 8) = 0
  · rw [if_pos hs, if_pos hs, if_pos hs, if_pos hs, ci 0 hs, ci 1 hs]
  · rw [if_neg hs, if_neg hs, if_neg hs, if_neg hs]
theorem sd_eq (iP : IPers np 150 G G) (iF : IFact G G) (iO : IProm G G) (iT : IText G G) {t z p d0 k : Int} (ht : 0 ≤ t ∧ t < (gF G 8 0 0)) (hz : 0 ≤ z ∧ z ≤ 1) (hp : 0 ≤ p ∧ p < (gF G 1 0 1)) (hk : k ≤ 600) : sdM G t z p d0 k = sdC G t z p d0 k := by
  unfold sdM sdC
  rw [val_eq iP iF iO hz hp hk, ln_eq iT ht.1 ht.2]
theorem fc_eq (iT : IText G G) (u t k : Int) : fcM G u t k = fcC G u t k := force_eq iT
theorem fc_in (iT : IText G G) {u t k : Int} (h : 0 ≤ fcC G u t k) : 0 ≤ fcC G u t k ∧ fcC G u t k < (gF G 8 0 0) := ⟨h, by have := fcC_lt (G := G) iT.1.2.1 u t k; omega⟩
theorem st_eq (iP : IPers np 150 G G) (iF : IFact G G) (iO : IProm G G) (iT : IText G G) {p d0 k : Int} (hp : 0 ≤ p ∧ p < (gF G 1 0 1)) (hk : k ≤ 600) : stM G p d0 k ↔ stC G p d0 k := by
  obtain ⟨p1, p2, p3, p4, p5, p6, p7, p8, p9, p10, p11, p12, p13, p14⟩ := iP.2.2.2 p hp.1 hp.2
  have hz := p3.2
  unfold stM stC
  rw [p3.1, kM_eq iP iF hz hp (by omega) hk, fc_eq iT, fc_eq iT]
  constructor
  · rintro ⟨h1, ⟨h2, h3⟩ | ⟨h2, h3, h4⟩⟩
    · exact ⟨h1, Or.inl ⟨h2, by rw [← sd_eq iP iF iO iT (fc_in iT h2) hz hp hk]; exact h3⟩⟩
    · exact ⟨h1, Or.inr ⟨h2, h3, by rw [← sd_eq iP iF iO iT (fc_in iT h3) hz hp hk]; exact h4⟩⟩
  · rintro ⟨h1, ⟨h2, h3⟩ | ⟨h2, h3, h4⟩⟩
    · exact ⟨h1, Or.inl ⟨h2, by rw [sd_eq iP iF iO iT (fc_in iT h2) hz hp hk]; exact h3⟩⟩
    · exact ⟨h1, Or.inr ⟨h2, h3, by rw [sd_eq iP iF iO iT (fc_in iT h3) hz hp hk]; exact h4⟩⟩
theorem wt_eq (iP : IPers np 150 G G) (iF : IFact G G) (iO : IProm G G) (iT : IText G G) {p z d0 k : Int} (hz : 0 ≤ z ∧ z ≤ 1) (hp : 0 ≤ p ∧ p < (gF G 1 0 1)) (hk : k ≤ 600) : wtM G p z d0 k = wtC G p z d0 k := by
  unfold wtM wtC
  rw [fc_eq iT]
  by_cases h : fcC G (10 * (2 + z) + 2) d0 k < 0
  · rw [if_pos h, if_pos h]
  · rw [if_neg h, if_neg h, sd_eq iP iF iO iT (fc_in iT (by omega)) hz hp hk]
theorem Inv_rst {q : RQ} {q2 : RQm} (h : Inv np G G) : Inv np (rstM (rstC G q) q2) (rstM (rstC G q) q2) := h
theorem EvT_n {b : Int → Int} {n n1 a : Int} {r : LRes} (e : n = n1) (h : EvT b n a r) : EvT b n1 a r := by subst e; exact h
theorem b2i_iff {p q : Prop} (h : p ↔ q) : b2i p = b2i q := by rw [propext h]
end TX
set_option maxRecDepth 10000 in
theorem call_mayStay {l : Launch} {w : Wo} {d : Nat} {G : PH} (hI : Inv w.1.2 G G) {p : Int} {d0 : Int} {k : Int} : CallOk l w d M_X11_mayStay M_X12_mayStay [some (vR 11 (0)), some (vI (p)), some (vI (d0)), some (vI (k))] [some (vR 12 (0)), some (vI (p)), some (vI (d0)), some (vI (k))] G := by
  have hI0 := hI
  obtain ⟨iL, iP, iS, iF, iO, iE, iT, iR, iB, iX, iH, iG, iQ, iN, iA, iJ⟩ := hI
  have hsz : 0 ≤ (gF G 1 0 1) ∧ (gF G 1 0 1) ≤ 150 := by have := iP.1; omega
  have ep : (gF G 12 0 17) = (gF G 1 0 1) := iP.1.2.2
  have mhsz : 0 ≤ (gF G 12 0 17) ∧ (gF G 12 0 17) ≤ 150 := by omega
  have hp : ∀ i, 0 ≤ i → i < (gF G 1 0 1) → gD G 30 0 i = some (3, i) := fun i a b => (iP.2.2.2 i a b).1.1
  have hcw := cnt_le (owP G) hsz.1
  have es : (gF G 12 0 22) = (gF G 1 0 3) := iS.1.1
  have hst : 0 ≤ (gF G 1 0 3) ∧ (gF G 1 0 3) ≤ 400 := by have := iS.1; omega
  have mhst : 0 ≤ (gF G 12 0 22) ∧ (gF G 12 0 22) ≤ 400 := by omega
  have hday : 0 ≤ (gF G 1 0 2) ∧ (gF G 1 0 2) ≤ 600 := iP.2.1.2
  have ed : (gF G 12 0 0) = (gF G 1 0 2) := iP.2.1.1
  have hf : 0 ≤ (gF G 9 0 0) ∧ (gF G 9 0 0) ≤ 300 := iF.1.2
  have ef : (gF G 12 0 27) = (gF G 9 0 0) := iF.1.1
  have mhf : 0 ≤ (gF G 12 0 27) ∧ (gF G 12 0 27) ≤ 300 := by omega
  have hlt : 0 ≤ (gF G 9 0 1) ∧ (gF G 9 0 1) ≤ 60 := iF.2.1.2
  have el : (gF G 12 0 29) = (gF G 9 0 1) := iF.2.1.1
  have mhlt : 0 ≤ (gF G 12 0 29) ∧ (gF G 12 0 29) ≤ 60 := by omega
  have mhofs : ∀ i, 0 ≤ i → i < (gF G 12 0 27) → 0 ≤ (gA G 219 0 (i)) ∧ (gA G 219 0 (i)) < 150 := fun i a b => by have := (iF.2.2.2.2.2 i a (by omega)).1; omega
  have mhsent : ∀ l, 0 ≤ l → l < (gF G 12 0 29) → 0 ≤ (gA G 223 0 (l)) ∧ (gA G 223 0 (l)) ≤ 600 := fun l a b => by have := iF.2.2.2.1 l a (by omega); omega
  have hpr : 0 ≤ (gF G 9 0 2) ∧ (gF G 9 0 2) ≤ 40 := iO.1.2
  have epr : (gF G 12 0 34) = (gF G 9 0 2) := iO.1.1
  have mhpr : 0 ≤ (gF G 12 0 34) ∧ (gF G 12 0 34) ≤ 40 := by omega
  have htx : 0 ≤ (gF G 8 0 0) ∧ (gF G 8 0 0) ≤ 20 := iT.1.2
  have etx : (gF G 12 0 42) = (gF G 8 0 0) := iT.1.1
  have mhtx : 0 ≤ (gF G 12 0 42) ∧ (gF G 12 0 42) ≤ 20 := by omega
  have hTX := (tx_both iT).1
  have mhTX := (tx_both iT).2
  have hnA : ∀ i, 0 ≤ i → i < (gF G 1 0 1) → (gF G 3 (i) 0) = i := fun i a b => (iP.2.2.2 i a b).1.2
  have hcA : ∀ i, 0 ≤ i → i < (gF G 1 0 1) → 0 ≤ (gF G 3 (i) 5) ∧ (gF G 3 (i) 5) ≤ 600 := fun i a b => by have := (iP.2.2.2 i a b).2.2.2.2.2.1; omega
  have hsA : ∀ i, 0 ≤ i → i < (gF G 1 0 1) → 0 ≤ (gF G 3 (i) 2) ∧ (gF G 3 (i) 2) ≤ 1 := fun i a b => by have := (iP.2.2.2 i a b).2.2.1; omega
  have mhcA : ∀ i, 0 ≤ i → i < (gF G 12 0 17) → 0 ≤ (gA G 212 0 (i)) ∧ (gA G 212 0 (i)) ≤ 600 := fun i a b => by have := (iP.2.2.2 i a (by omega)).2.2.2.2.2.1; omega
  have mhsA : ∀ i, 0 ≤ i → i < (gF G 12 0 17) → 0 ≤ (gA G 205 0 (i)) ∧ (gA G 205 0 (i)) ≤ 1 := fun i a b => by have := (iP.2.2.2 i a (by omega)).2.2.1; omega
  unfold CallOk CallPhi
  refine sp_X11_mayStay (d := d + 870) (by exact hp) (by exact hsz) (by exact hf) (by exact hpr) (by exact htx) (by exact hTX) (rfl) (rfl) (rfl) (by exact hnA) (by exact hcA) (by exact hsA) (rfl) ?_ ?_
  · intro c1
    refine sp_X12_mayStay (d := d + 901) (by exact mhsz) (by exact mhf) (by exact mhlt) (by exact mhofs) (by exact mhsent) (by exact mhpr) (by exact mhtx) (by exact mhTX) (rfl) (rfl) (rfl) (by exact mhcA) (by exact mhsA) (rfl) ?_ ?_
    · intro m1
      exact ⟨⟨rfl, _, rfl⟩, hI0⟩
    · intro m1 q2
      exfalso; omega
  · intro c1 q
    refine sp_X12_mayStay (d := d + 901) (by exact mhsz) (by exact mhf) (by exact mhlt) (by exact mhofs) (by exact mhsent) (by exact mhpr) (by exact mhtx) (by exact mhTX) ((show sdM (rstC G q) = sdM G from rfl)) ((show fcM (rstC G q) = fcM G from rfl)) ((show kM (rstC G q) = kM G from rfl)) (by exact mhcA) (by exact mhsA) ((show stM (rstC G q) = stM G from rfl)) ?_ ?_
    · intro m1
      replace m1 : ¬ ((0 ≤ p ∧ p < (gF G 12 0 17)) ∧ (0 ≤ d0 ∧ d0 ≤ 600) ∧ 0 ≤ k ∧ k ≤ 600) := m1
      exfalso; omega
    · intro m1 q2
      exact ⟨⟨congrArg (fun x => some (vI x)) (b2i_iff (st_eq iP iF iO iT (by omega) (by omega))), _, rfl⟩, Inv_rst hI0⟩
set_option maxRecDepth 10000 in
theorem call_worth {l : Launch} {w : Wo} {d : Nat} {G : PH} (hI : Inv w.1.2 G G) {p : Int} {z : Int} {d0 : Int} {k : Int} : CallOk l w d M_X11_worth M_X12_worth [some (vR 11 (0)), some (vI (p)), some (vI (z)), some (vI (d0)), some (vI (k))] [some (vR 12 (0)), some (vI (p)), some (vI (z)), some (vI (d0)), some (vI (k))] G := by
  have hI0 := hI
  obtain ⟨iL, iP, iS, iF, iO, iE, iT, iR, iB, iX, iH, iG, iQ, iN, iA, iJ⟩ := hI
  have hsz : 0 ≤ (gF G 1 0 1) ∧ (gF G 1 0 1) ≤ 150 := by have := iP.1; omega
  have ep : (gF G 12 0 17) = (gF G 1 0 1) := iP.1.2.2
  have mhsz : 0 ≤ (gF G 12 0 17) ∧ (gF G 12 0 17) ≤ 150 := by omega
  have hp : ∀ i, 0 ≤ i → i < (gF G 1 0 1) → gD G 30 0 i = some (3, i) := fun i a b => (iP.2.2.2 i a b).1.1
  have hcw := cnt_le (owP G) hsz.1
  have es : (gF G 12 0 22) = (gF G 1 0 3) := iS.1.1
  have hst : 0 ≤ (gF G 1 0 3) ∧ (gF G 1 0 3) ≤ 400 := by have := iS.1; omega
  have mhst : 0 ≤ (gF G 12 0 22) ∧ (gF G 12 0 22) ≤ 400 := by omega
  have hday : 0 ≤ (gF G 1 0 2) ∧ (gF G 1 0 2) ≤ 600 := iP.2.1.2
  have ed : (gF G 12 0 0) = (gF G 1 0 2) := iP.2.1.1
  have hf : 0 ≤ (gF G 9 0 0) ∧ (gF G 9 0 0) ≤ 300 := iF.1.2
  have ef : (gF G 12 0 27) = (gF G 9 0 0) := iF.1.1
  have mhf : 0 ≤ (gF G 12 0 27) ∧ (gF G 12 0 27) ≤ 300 := by omega
  have hlt : 0 ≤ (gF G 9 0 1) ∧ (gF G 9 0 1) ≤ 60 := iF.2.1.2
  have el : (gF G 12 0 29) = (gF G 9 0 1) := iF.2.1.1
  have mhlt : 0 ≤ (gF G 12 0 29) ∧ (gF G 12 0 29) ≤ 60 := by omega
  have mhofs : ∀ i, 0 ≤ i → i < (gF G 12 0 27) → 0 ≤ (gA G 219 0 (i)) ∧ (gA G 219 0 (i)) < 150 := fun i a b => by have := (iF.2.2.2.2.2 i a (by omega)).1; omega
  have mhsent : ∀ l, 0 ≤ l → l < (gF G 12 0 29) → 0 ≤ (gA G 223 0 (l)) ∧ (gA G 223 0 (l)) ≤ 600 := fun l a b => by have := iF.2.2.2.1 l a (by omega); omega
  have hpr : 0 ≤ (gF G 9 0 2) ∧ (gF G 9 0 2) ≤ 40 := iO.1.2
  have epr : (gF G 12 0 34) = (gF G 9 0 2) := iO.1.1
  have mhpr : 0 ≤ (gF G 12 0 34) ∧ (gF G 12 0 34) ≤ 40 := by omega
  have htx : 0 ≤ (gF G 8 0 0) ∧ (gF G 8 0 0) ≤ 20 := iT.1.2
  have etx : (gF G 12 0 42) = (gF G 8 0 0) := iT.1.1
  have mhtx : 0 ≤ (gF G 12 0 42) ∧ (gF G 12 0 42) ≤ 20 := by omega
  have hTX := (tx_both iT).1
  have mhTX := (tx_both iT).2
  have hnA : ∀ i, 0 ≤ i → i < (gF G 1 0 1) → (gF G 3 (i) 0) = i := fun i a b => (iP.2.2.2 i a b).1.2
  have hcA : ∀ i, 0 ≤ i → i < (gF G 1 0 1) → 0 ≤ (gF G 3 (i) 5) ∧ (gF G 3 (i) 5) ≤ 600 := fun i a b => by have := (iP.2.2.2 i a b).2.2.2.2.2.1; omega
  have hsA : ∀ i, 0 ≤ i → i < (gF G 1 0 1) → 0 ≤ (gF G 3 (i) 2) ∧ (gF G 3 (i) 2) ≤ 1 := fun i a b => by have := (iP.2.2.2 i a b).2.2.1; omega
  have mhcA : ∀ i, 0 ≤ i → i < (gF G 12 0 17) → 0 ≤ (gA G 212 0 (i)) ∧ (gA G 212 0 (i)) ≤ 600 := fun i a b => by have := (iP.2.2.2 i a (by omega)).2.2.2.2.2.1; omega
  have mhsA : ∀ i, 0 ≤ i → i < (gF G 12 0 17) → 0 ≤ (gA G 205 0 (i)) ∧ (gA G 205 0 (i)) ≤ 1 := fun i a b => by have := (iP.2.2.2 i a (by omega)).2.2.1; omega
  unfold CallOk CallPhi
  refine sp_X11_worth (d := d + 870) (by exact hp) (by exact hsz) (by exact hf) (by exact hpr) (by exact htx) (by exact hTX) (rfl) (rfl) (rfl) (by exact hnA) (by exact hcA) (by exact hsA) (rfl) ?_ ?_
  · intro c1
    refine sp_X12_worth (d := d + 901) (by exact mhsz) (by exact mhf) (by exact mhlt) (by exact mhofs) (by exact mhsent) (by exact mhpr) (by exact mhtx) (by exact mhTX) (rfl) (rfl) (rfl) (by exact mhcA) (by exact mhsA) (rfl) ?_ ?_
    · intro m1
      exact ⟨⟨rfl, _, rfl⟩, hI0⟩
    · intro m1 q2
      exfalso; omega
  · intro c1 q
    refine sp_X12_worth (d := d + 901) (by exact mhsz) (by exact mhf) (by exact mhlt) (by exact mhofs) (by exact mhsent) (by exact mhpr) (by exact mhtx) (by exact mhTX) ((show sdM (rstC G q) = sdM G from rfl)) ((show fcM (rstC G q) = fcM G from rfl)) ((show kM (rstC G q) = kM G from rfl)) (by exact mhcA) (by exact mhsA) ((show wtM (rstC G q) = wtM G from rfl)) ?_ ?_
    · intro m1
      replace m1 : ¬ ((0 ≤ p ∧ p < (gF G 12 0 17)) ∧ (0 ≤ z ∧ z ≤ 1) ∧ (0 ≤ d0 ∧ d0 ≤ 600) ∧ 0 ≤ k ∧ k ≤ 600) := m1
      exfalso; omega
    · intro m1 q2
      exact ⟨⟨congrArg (fun x => some (vI x)) (wt_eq iP iF iO iT (by omega) (by omega) (by omega)), _, rfl⟩, Inv_rst hI0⟩
set_option maxRecDepth 10000 in
theorem call_owed {l : Launch} {w : Wo} {d : Nat} {G : PH} (hI : Inv w.1.2 G G) {p : Int} {d0 : Int} {k : Int} : CallOk l w d M_X11_owed M_X12_owed [some (vR 11 (0)), some (vI (p)), some (vI (d0)), some (vI (k))] [some (vR 12 (0)), some (vI (p)), some (vI (d0)), some (vI (k)), none, none] G := by
  have hI0 := hI
  obtain ⟨iL, iP, iS, iF, iO, iE, iT, iR, iB, iX, iH, iG, iQ, iN, iA, iJ⟩ := hI
  have hsz : 0 ≤ (gF G 1 0 1) ∧ (gF G 1 0 1) ≤ 150 := by have := iP.1; omega
  have ep : (gF G 12 0 17) = (gF G 1 0 1) := iP.1.2.2
  have mhsz : 0 ≤ (gF G 12 0 17) ∧ (gF G 12 0 17) ≤ 150 := by omega
  have hp : ∀ i, 0 ≤ i → i < (gF G 1 0 1) → gD G 30 0 i = some (3, i) := fun i a b => (iP.2.2.2 i a b).1.1
  have hcw := cnt_le (owP G) hsz.1
  have es : (gF G 12 0 22) = (gF G 1 0 3) := iS.1.1
  have hst : 0 ≤ (gF G 1 0 3) ∧ (gF G 1 0 3) ≤ 400 := by have := iS.1; omega
  have mhst : 0 ≤ (gF G 12 0 22) ∧ (gF G 12 0 22) ≤ 400 := by omega
  have hday : 0 ≤ (gF G 1 0 2) ∧ (gF G 1 0 2) ≤ 600 := iP.2.1.2
  have ed : (gF G 12 0 0) = (gF G 1 0 2) := iP.2.1.1
  have hf : 0 ≤ (gF G 9 0 0) ∧ (gF G 9 0 0) ≤ 300 := iF.1.2
  have ef : (gF G 12 0 27) = (gF G 9 0 0) := iF.1.1
  have mhf : 0 ≤ (gF G 12 0 27) ∧ (gF G 12 0 27) ≤ 300 := by omega
  have hlt : 0 ≤ (gF G 9 0 1) ∧ (gF G 9 0 1) ≤ 60 := iF.2.1.2
  have el : (gF G 12 0 29) = (gF G 9 0 1) := iF.2.1.1
  have mhlt : 0 ≤ (gF G 12 0 29) ∧ (gF G 12 0 29) ≤ 60 := by omega
  have mhofs : ∀ i, 0 ≤ i → i < (gF G 12 0 27) → 0 ≤ (gA G 219 0 (i)) ∧ (gA G 219 0 (i)) < 150 := fun i a b => by have := (iF.2.2.2.2.2 i a (by omega)).1; omega
  have mhsent : ∀ l, 0 ≤ l → l < (gF G 12 0 29) → 0 ≤ (gA G 223 0 (l)) ∧ (gA G 223 0 (l)) ≤ 600 := fun l a b => by have := iF.2.2.2.1 l a (by omega); omega
  have hpr : 0 ≤ (gF G 9 0 2) ∧ (gF G 9 0 2) ≤ 40 := iO.1.2
  have epr : (gF G 12 0 34) = (gF G 9 0 2) := iO.1.1
  have mhpr : 0 ≤ (gF G 12 0 34) ∧ (gF G 12 0 34) ≤ 40 := by omega
  have htx : 0 ≤ (gF G 8 0 0) ∧ (gF G 8 0 0) ≤ 20 := iT.1.2
  have etx : (gF G 12 0 42) = (gF G 8 0 0) := iT.1.1
  have mhtx : 0 ≤ (gF G 12 0 42) ∧ (gF G 12 0 42) ≤ 20 := by omega
  have hTX := (tx_both iT).1
  have mhTX := (tx_both iT).2
  have hnA : ∀ i, 0 ≤ i → i < (gF G 1 0 1) → (gF G 3 (i) 0) = i := fun i a b => (iP.2.2.2 i a b).1.2
  have hcA : ∀ i, 0 ≤ i → i < (gF G 1 0 1) → 0 ≤ (gF G 3 (i) 5) ∧ (gF G 3 (i) 5) ≤ 600 := fun i a b => by have := (iP.2.2.2 i a b).2.2.2.2.2.1; omega
  have hsA : ∀ i, 0 ≤ i → i < (gF G 1 0 1) → 0 ≤ (gF G 3 (i) 2) ∧ (gF G 3 (i) 2) ≤ 1 := fun i a b => by have := (iP.2.2.2 i a b).2.2.1; omega
  have mhcA : ∀ i, 0 ≤ i → i < (gF G 12 0 17) → 0 ≤ (gA G 212 0 (i)) ∧ (gA G 212 0 (i)) ≤ 600 := fun i a b => by have := (iP.2.2.2 i a (by omega)).2.2.2.2.2.1; omega
  have mhsA : ∀ i, 0 ≤ i → i < (gF G 12 0 17) → 0 ≤ (gA G 205 0 (i)) ∧ (gA G 205 0 (i)) ≤ 1 := fun i a b => by have := (iP.2.2.2 i a (by omega)).2.2.1; omega
  unfold CallOk CallPhi
  refine sp_X11_owed (d := d + 870) (by exact hp) (by exact hsz) (by exact hf) (by exact hpr) (by exact htx) (by exact hTX) (rfl) (rfl) (rfl) (by exact hnA) (by exact hcA) (by exact hsA) ?_ ?_
  · intro c1
    refine sp_X12_owed (d := d + 901) (by exact mhsz) (by exact mhf) (by exact mhlt) (by exact mhofs) (by exact mhsent) (by exact mhpr) (by exact mhtx) (by exact mhTX) (rfl) (rfl) (rfl) (by exact mhcA) (by exact mhsA) ?_ ?_
    · intro m1
      exact ⟨⟨rfl, _, rfl⟩, hI0⟩
    · intro m1 q2 v2 m2
      exfalso; omega
  · intro c1 q v c2
    refine sp_X12_owed (d := d + 901) (by exact mhsz) (by exact mhf) (by exact mhlt) (by exact mhofs) (by exact mhsent) (by exact mhpr) (by exact mhtx) (by exact mhTX) ((show sdM (rstC G q) = sdM G from rfl)) ((show fcM (rstC G q) = fcM G from rfl)) ((show kM (rstC G q) = kM G from rfl)) (by exact mhcA) (by exact mhsA) ?_ ?_
    · intro m1
      replace m1 : ¬ ((0 ≤ p ∧ p < (gF G 12 0 17)) ∧ (0 ≤ d0 ∧ d0 ≤ 600) ∧ 0 ≤ k ∧ k ≤ 600) := m1
      exfalso; omega
    · intro m1 q2 v2 m2
      replace m2 : ((0 ≤ fcM G 0 d0 k ∧ (sdM G (fcM G 0 d0 k) (gA G 205 0 (p)) p d0 k).2 ≠ 0) ∧ v2 = wr (100 + (sdM G (fcM G 0 d0 k) (gA G 205 0 (p)) p d0 k).1)) ∨ (¬ (0 ≤ fcM G 0 d0 k ∧ (sdM G (fcM G 0 d0 k) (gA G 205 0 (p)) p d0 k).2 ≠ 0) ∧ (0 ≤ fcM G 10 d0 k ∧ (sdM G (fcM G 10 d0 k) (gA G 205 0 (p)) p d0 k).2 ≠ 0) ∧ v2 = wr (200 + (sdM G (fcM G 10 d0 k) (gA G 205 0 (p)) p d0 k).1)) ∨ (¬ (0 ≤ fcM G 0 d0 k ∧ (sdM G (fcM G 0 d0 k) (gA G 205 0 (p)) p d0 k).2 ≠ 0) ∧ ¬ (0 ≤ fcM G 10 d0 k ∧ (sdM G (fcM G 10 d0 k) (gA G 205 0 (p)) p d0 k).2 ≠ 0) ∧ v2 = 0) := m2
      have eh : (gA G 205 0 (p)) = (gF G 3 (p) 2) := (iP.2.2.2 p (by omega) (by omega)).2.2.1.1
      rw [eh, fc_eq iT, fc_eq iT] at m2
      have s0 : 0 ≤ fcC G 0 d0 k → sdM G (fcC G 0 d0 k) (gF G 3 (p) 2) p d0 k = (sdC G (fcC G 0 d0 k) (gF G 3 (p) 2) p d0 k) := fun z => sd_eq iP iF iO iT (fc_in iT z) (hsA p (by omega) (by omega)) (by omega) (by omega)
      have s1 : 0 ≤ fcC G 10 d0 k → sdM G (fcC G 10 d0 k) (gF G 3 (p) 2) p d0 k = (sdC G (fcC G 10 d0 k) (gF G 3 (p) 2) p d0 k) := fun z => sd_eq iP iF iO iT (fc_in iT z) (hsA p (by omega) (by omega)) (by omega) (by omega)
      have ev : v2 = v := by
        by_cases z0 : 0 ≤ fcC G 0 d0 k <;> by_cases z1 : 0 ≤ fcC G 10 d0 k
        · rw [s0 z0, s1 z1] at m2; omega
        · rw [s0 z0] at m2; omega
        · rw [s1 z1] at m2; omega
        · omega
      exact ⟨⟨by rw [ev], _, rfl⟩, Inv_rst hI0⟩
set_option maxRecDepth 10000 in
theorem call_says {l : Launch} {w : Wo} {d : Nat} {G : PH} (hI : Inv w.1.2 G G) {t : Int} {p : Int} {u : Int} {d0 : Int} {k : Int} : CallOk l w d M_X11_says M_X12_says [some (vR 11 (0)), some (vI (t)), some (vI (p)), some (vI (u)), some (vI (d0)), some (vI (k))] [some (vR 12 (0)), some (vI (t)), some (vI (p)), some (vI (u)), some (vI (d0)), some (vI (k)), none] G := by
  have hI0 := hI
  obtain ⟨iL, iP, iS, iF, iO, iE, iT, iR, iB, iX, iH, iG, iQ, iN, iA, iJ⟩ := hI
  have hsz : 0 ≤ (gF G 1 0 1) ∧ (gF G 1 0 1) ≤ 150 := by have := iP.1; omega
  have ep : (gF G 12 0 17) = (gF G 1 0 1) := iP.1.2.2
  have mhsz : 0 ≤ (gF G 12 0 17) ∧ (gF G 12 0 17) ≤ 150 := by omega
  have hp : ∀ i, 0 ≤ i → i < (gF G 1 0 1) → gD G 30 0 i = some (3, i) := fun i a b => (iP.2.2.2 i a b).1.1
  have hcw := cnt_le (owP G) hsz.1
  have es : (gF G 12 0 22) = (gF G 1 0 3) := iS.1.1
  have hst : 0 ≤ (gF G 1 0 3) ∧ (gF G 1 0 3) ≤ 400 := by have := iS.1; omega
  have mhst : 0 ≤ (gF G 12 0 22) ∧ (gF G 12 0 22) ≤ 400 := by omega
  have hday : 0 ≤ (gF G 1 0 2) ∧ (gF G 1 0 2) ≤ 600 := iP.2.1.2
  have ed : (gF G 12 0 0) = (gF G 1 0 2) := iP.2.1.1
  have hf : 0 ≤ (gF G 9 0 0) ∧ (gF G 9 0 0) ≤ 300 := iF.1.2
  have ef : (gF G 12 0 27) = (gF G 9 0 0) := iF.1.1
  have mhf : 0 ≤ (gF G 12 0 27) ∧ (gF G 12 0 27) ≤ 300 := by omega
  have hlt : 0 ≤ (gF G 9 0 1) ∧ (gF G 9 0 1) ≤ 60 := iF.2.1.2
  have el : (gF G 12 0 29) = (gF G 9 0 1) := iF.2.1.1
  have mhlt : 0 ≤ (gF G 12 0 29) ∧ (gF G 12 0 29) ≤ 60 := by omega
  have mhofs : ∀ i, 0 ≤ i → i < (gF G 12 0 27) → 0 ≤ (gA G 219 0 (i)) ∧ (gA G 219 0 (i)) < 150 := fun i a b => by have := (iF.2.2.2.2.2 i a (by omega)).1; omega
  have mhsent : ∀ l, 0 ≤ l → l < (gF G 12 0 29) → 0 ≤ (gA G 223 0 (l)) ∧ (gA G 223 0 (l)) ≤ 600 := fun l a b => by have := iF.2.2.2.1 l a (by omega); omega
  have hpr : 0 ≤ (gF G 9 0 2) ∧ (gF G 9 0 2) ≤ 40 := iO.1.2
  have epr : (gF G 12 0 34) = (gF G 9 0 2) := iO.1.1
  have mhpr : 0 ≤ (gF G 12 0 34) ∧ (gF G 12 0 34) ≤ 40 := by omega
  have htx : 0 ≤ (gF G 8 0 0) ∧ (gF G 8 0 0) ≤ 20 := iT.1.2
  have etx : (gF G 12 0 42) = (gF G 8 0 0) := iT.1.1
  have mhtx : 0 ≤ (gF G 12 0 42) ∧ (gF G 12 0 42) ≤ 20 := by omega
  have hTX := (tx_both iT).1
  have mhTX := (tx_both iT).2
  have hnA : ∀ i, 0 ≤ i → i < (gF G 1 0 1) → (gF G 3 (i) 0) = i := fun i a b => (iP.2.2.2 i a b).1.2
  have hcA : ∀ i, 0 ≤ i → i < (gF G 1 0 1) → 0 ≤ (gF G 3 (i) 5) ∧ (gF G 3 (i) 5) ≤ 600 := fun i a b => by have := (iP.2.2.2 i a b).2.2.2.2.2.1; omega
  have hsA : ∀ i, 0 ≤ i → i < (gF G 1 0 1) → 0 ≤ (gF G 3 (i) 2) ∧ (gF G 3 (i) 2) ≤ 1 := fun i a b => by have := (iP.2.2.2 i a b).2.2.1; omega
  have mhcA : ∀ i, 0 ≤ i → i < (gF G 12 0 17) → 0 ≤ (gA G 212 0 (i)) ∧ (gA G 212 0 (i)) ≤ 600 := fun i a b => by have := (iP.2.2.2 i a (by omega)).2.2.2.2.2.1; omega
  have mhsA : ∀ i, 0 ≤ i → i < (gF G 12 0 17) → 0 ≤ (gA G 205 0 (i)) ∧ (gA G 205 0 (i)) ≤ 1 := fun i a b => by have := (iP.2.2.2 i a (by omega)).2.2.1; omega
  unfold CallOk CallPhi
  refine sp_X11_says (d := d + 870) (by exact hp) (by exact hsz) (by exact hf) (by exact hpr) (by exact htx) (by exact hTX) (rfl) (rfl) (rfl) (by exact hnA) (by exact hcA) (by exact hsA) ?_ ?_
  · intro c1
    refine sp_X12_says (d := d + 901) (by exact mhsz) (by exact mhf) (by exact mhlt) (by exact mhofs) (by exact mhsent) (by exact mhpr) (by exact mhtx) (by exact mhTX) (rfl) (rfl) (rfl) (by exact mhcA) (by exact mhsA) ?_ ?_
    · intro m1
      exact ⟨⟨rfl, _, rfl⟩, hI0⟩
    · intro m1 q2 v2 m2
      exfalso; omega
  · intro c1 q v c2
    refine sp_X12_says (d := d + 901) (by exact mhsz) (by exact mhf) (by exact mhlt) (by exact mhofs) (by exact mhsent) (by exact mhpr) (by exact mhtx) (by exact mhTX) ((show sdM (rstC G q) = sdM G from rfl)) ((show fcM (rstC G q) = fcM G from rfl)) ((show kM (rstC G q) = kM G from rfl)) (by exact mhcA) (by exact mhsA) ?_ ?_
    · intro m1
      replace m1 : ¬ ((0 ≤ t ∧ t < (gF G 12 0 42)) ∧ (0 ≤ p ∧ p < (gF G 12 0 17)) ∧ ((0 ≤ d0 ∧ d0 ≤ 600) ∧ 0 ≤ k ∧ k ≤ 600) ∧ (u = 0 ∨ u = 1 ∨ u = 10 ∨ u = 11)) := m1
      exfalso; omega
    · intro m1 q2 v2 m2
      replace m2 : (u % 10 = 0 ∧ v2 = (sdM G t (u / 10) p d0 k).2) ∨ (u % 10 = 1 ∧ v2 = (sdM G t (u / 10) p d0 k).1) := m2
      rw [sd_eq iP iF iO iT (by omega) (by omega) (by omega) (by omega)] at m2
      have ev : v2 = v := by omega
      exact ⟨⟨by rw [ev], _, rfl⟩, Inv_rst hI0⟩
set_option maxRecDepth 10000 in
theorem call_text {l : Launch} {w : Wo} {d : Nat} {G : PH} (hI : Inv w.1.2 G G) {u f0 : Int} : CallOk l w d M_X11_text M_X12_text [some (vR 11 (0)), some (vI (u)), some (vI (f0))] [some (vR 12 (0)), some (vI (u)), some (vI (f0)), none, none, none] G := by
  have hI0 := hI
  obtain ⟨iL, iP, iS, iF, iO, iE, iT, iR, iB, iX, iH, iG, iQ, iN, iA, iJ⟩ := hI
  have htp : 0 ≤ (gF G 8 0 1) ∧ (gF G 8 0 1) ≤ 160 := iE.1.2
  have et : (gF G 12 0 36) = (gF G 8 0 1) := iE.1.1
  have mhtp : 0 ≤ (gF G 12 0 36) ∧ (gF G 12 0 36) ≤ 160 := by omega
  have htx : 0 ≤ (gF G 8 0 0) ∧ (gF G 8 0 0) ≤ 20 := iT.1.2
  have etx : (gF G 12 0 42) = (gF G 8 0 0) := iT.1.1
  have mhtx : 0 ≤ (gF G 12 0 42) ∧ (gF G 12 0 42) ≤ 20 := by omega
  have ed : (gF G 12 0 0) = (gF G 1 0 2) := iP.2.1.1
  have hft : ∀ j, 0 ≤ j → j < (gF G 12 0 36) → (fun j => filF (fun j0 => 160 * (gF G 12 0 42) ≤ j0) (fun j0 => gA G 228 0 (j0 - 160 * (gF G 12 0 42))) (gA G 229 0) (160 * (gF G 12 0 42) + (gF G 12 0 36)) (160 * (gF G 12 0 42) + j)) j = (gA G 228 0 (j)) := fun j j0 j1 => by
    show filF _ _ _ _ _ = _
    rw [fil_t (by omega) (by omega) (by omega), show 160 * (gF G 12 0 42) + j - 160 * (gF G 12 0 42) = j by omega]
  have hb : ∀ j, 0 ≤ j → j < (gF G 8 0 1) → (fun j => filF (fun j0 => 160 * (gF G 12 0 42) ≤ j0) (fun j0 => gA G 228 0 (j0 - 160 * (gF G 12 0 42))) (gA G 229 0) (160 * (gF G 12 0 42) + (gF G 12 0 36)) (160 * (gF G 12 0 42) + j)) j = pAnd (gA G 76 0 (j)) 255 := fun j j0 j1 => (hft j j0 (by omega)).trans (iE.2 j j0 j1).1
  have hby : ∀ j, 0 ≤ j → j < (gF G 8 0 1) → -128 ≤ (gA G 76 0 (j)) ∧ (gA G 76 0 (j)) ≤ 127 := fun j j0 j1 => (iE.2 j j0 j1).2.2.2
  unfold CallOk CallPhi
  refine sp_X11_text (d := d + 872) (b := (fun j => filF (fun j0 => 160 * (gF G 12 0 42) ≤ j0) (fun j0 => gA G 228 0 (j0 - 160 * (gF G 12 0 42))) (gA G 229 0) (160 * (gF G 12 0 42) + (gF G 12 0 36)) (160 * (gF G 12 0 42) + j))) htp htx hb hby ?_ ?_ ?_ ?_
  · intro c1
    refine sp_X12_text (d := d + 903) (b := (fun j => filF (fun j0 => 160 * (gF G 12 0 42) ≤ j0) (fun j0 => gA G 228 0 (j0 - 160 * (gF G 12 0 42))) (gA G 229 0) (160 * (gF G 12 0 42) + (gF G 12 0 36)) (160 * (gF G 12 0 42) + j))) (by exact mhtp) (by exact mhtx) (by exact hft) ?_ ?_ ?_ ?_
    · intro m1
      exact ⟨⟨rfl, _, rfl⟩, hI0⟩
    · intro m1 m2
      replace m2 : (gF G 12 0 42) = 20 := m2
      exfalso; omega
    · intro m1 m2 f2 x2 l2 m3 m4 m5
      replace m2 : (gF G 12 0 42) < 20 := m2
      exfalso; omega
    · intro m1 m2 l2 L2 m3
      replace m2 : (gF G 12 0 42) < 20 := m2
      exfalso; omega
  · intro c1 c2
    refine sp_X12_text (d := d + 903) (b := (fun j => filF (fun j0 => 160 * (gF G 12 0 42) ≤ j0) (fun j0 => gA G 228 0 (j0 - 160 * (gF G 12 0 42))) (gA G 229 0) (160 * (gF G 12 0 42) + (gF G 12 0 36)) (160 * (gF G 12 0 42) + j))) (by exact mhtp) (by exact mhtx) (by exact hft) ?_ ?_ ?_ ?_
    · intro m1
      exfalso; omega
    · intro m1 m2
      exact ⟨⟨rfl, _, rfl⟩, hI0⟩
    · intro m1 m2 f2 x2 l2 m3 m4 m5
      replace m2 : (gF G 12 0 42) < 20 := m2
      exfalso; omega
    · intro m1 m2 l2 L2 m3
      replace m2 : (gF G 12 0 42) < 20 := m2
      exfalso; omega
  · intro c1 c2 f l c3 c4 c5
    refine sp_X12_text (d := d + 903) (b := (fun j => filF (fun j0 => 160 * (gF G 12 0 42) ≤ j0) (fun j0 => gA G 228 0 (j0 - 160 * (gF G 12 0 42))) (gA G 229 0) (160 * (gF G 12 0 42) + (gF G 12 0 36)) (160 * (gF G 12 0 42) + j))) (by exact mhtp) (by exact mhtx) (by exact hft) ?_ ?_ ?_ ?_
    · intro m1
      exfalso; omega
    · intro m1 m2
      replace m2 : (gF G 12 0 42) = 20 := m2
      exfalso; omega
    · intro m1 m2 f2 x2 l2 m3 m4 m5
      replace m3 : EvT (fun j => filF (fun j0 => 160 * (gF G 12 0 42) ≤ j0) (fun j0 => gA G 228 0 (j0 - 160 * (gF G 12 0 42))) (gA G 229 0) (160 * (gF G 12 0 42) + (gF G 12 0 36)) (160 * (gF G 12 0 42) + j)) (gF G 12 0 36) 0 (.inl f2) := m3
      have ef := Sum.inl.inj (EvT_det (EvT_n et m3) c3)
      subst ef
      exact ⟨⟨rfl, _, rfl⟩, iL, iP, iS, iF, iO, ⟨⟨rfl, by show (0 : Int) ≤ 0; omega, by show (0 : Int) ≤ 160; omega⟩, fun j j0 j1 => absurd j1 (by show ¬ j < 0; omega)⟩, iT, iR, iB, iX, iH, iG, iQ, iN, iA, iJ⟩
    · intro m1 m2 l2 L2 m3
      replace m2 : (gF G 12 0 42) < 20 := m2
      replace m3 : EvT (fun j => filF (fun j0 => 160 * (gF G 12 0 42) ≤ j0) (fun j0 => gA G 228 0 (j0 - 160 * (gF G 12 0 42))) (gA G 229 0) (160 * (gF G 12 0 42) + (gF G 12 0 36)) (160 * (gF G 12 0 42) + j)) (gF G 12 0 36) 0 (.inr L2) := m3
      have h9 := EvT_det c3 (EvT_n et m3); cases h9
  · intro c1 c2 l L c3
    refine sp_X12_text (d := d + 903) (b := (fun j => filF (fun j0 => 160 * (gF G 12 0 42) ≤ j0) (fun j0 => gA G 228 0 (j0 - 160 * (gF G 12 0 42))) (gA G 229 0) (160 * (gF G 12 0 42) + (gF G 12 0 36)) (160 * (gF G 12 0 42) + j))) (by exact mhtp) (by exact mhtx) (by exact hft) ?_ ?_ ?_ ?_
    · intro m1
      exfalso; omega
    · intro m1 m2
      replace m2 : (gF G 12 0 42) = 20 := m2
      exfalso; omega
    · intro m1 m2 f2 x2 l2 m3 m4 m5
      replace m2 : (gF G 12 0 42) < 20 := m2
      replace m3 : EvT (fun j => filF (fun j0 => 160 * (gF G 12 0 42) ≤ j0) (fun j0 => gA G 228 0 (j0 - 160 * (gF G 12 0 42))) (gA G 229 0) (160 * (gF G 12 0 42) + (gF G 12 0 36)) (160 * (gF G 12 0 42) + j)) (gF G 12 0 36) 0 (.inl f2) := m3
      have h9 := EvT_det c3 (EvT_n et m3); cases h9
    · intro m1 m2 l2 L2 m3
      replace m3 : EvT (fun j => filF (fun j0 => 160 * (gF G 12 0 42) ≤ j0) (fun j0 => gA G 228 0 (j0 - 160 * (gF G 12 0 42))) (gA G 229 0) (160 * (gF G 12 0 42) + (gF G 12 0 36)) (160 * (gF G 12 0 42) + j)) (gF G 12 0 36) 0 (.inr L2) := m3
      refine ⟨⟨congrArg (fun x => some (vI x)) etx, _, rfl⟩, iL, iP, iS, iF, iO, ⟨⟨rfl, by show (0 : Int) ≤ 0; omega, by show (0 : Int) ≤ 160; omega⟩, fun j j0 j1 => absurd j1 (by show ¬ j < 0; omega)⟩, ?_, iR, iB, iX, iH, iG, iQ, iN, iA, iJ⟩
      refine ⟨⟨by show (gF G 12 0 42) + 1 = (gF G 8 0 0) + 1; omega, by show 0 ≤ (gF G 8 0 0) + 1; omega, by show (gF G 8 0 0) + 1 ≤ 20; omega⟩, fun t t0 t1 => ?_⟩
      replace t1 : t < (gF G 8 0 0) + 1 := t1
      have hfo : ∀ j, 160 * t + j < 160 * (gF G 12 0 42) → filF (fun j0 => 160 * (gF G 12 0 42) ≤ j0) (fun j0 => gA G 228 0 (j0 - 160 * (gF G 12 0 42))) (gA G 229 0) (160 * (gF G 12 0 42) + (gF G 12 0 36)) (160 * t + j) = gA G 229 0 (160 * t + j) := fun j z => fil_f (by omega)
      by_cases e : t = (gF G 8 0 0)
      · have et2 : t = (gF G 12 0 42) := by omega
        refine ⟨⟨?_, ?_, ?_⟩, ?_, ?_, ?_, ?_, ?_⟩
        · show (if 230 = 230 ∧ (0:Int) = 0 ∧ t = (gF G 12 0 42) then (gF G 12 0 36) else gA G 230 0 t) = (if 79 = 79 ∧ (0:Int) = 0 ∧ t = (gF G 8 0 0) then (gF G 8 0 1) else gA G 79 0 t)
          exact (if_pos ⟨rfl, rfl, et2⟩).trans (et.trans (if_pos ⟨rfl, rfl, e⟩).symm)
        · show 0 ≤ (if 79 = 79 ∧ (0:Int) = 0 ∧ t = (gF G 8 0 0) then (gF G 8 0 1) else gA G 79 0 t)
          rw [if_pos ⟨rfl, rfl, e⟩]; omega
        · show (if 79 = 79 ∧ (0:Int) = 0 ∧ t = (gF G 8 0 0) then (gF G 8 0 1) else gA G 79 0 t) ≤ 160
          rw [if_pos ⟨rfl, rfl, e⟩]; omega
        · show (if 231 = 231 ∧ (0:Int) = 0 ∧ t = (gF G 12 0 42) then u else gA G 231 0 t) = (if 80 = 80 ∧ (0:Int) = 0 ∧ t = (gF G 8 0 0) then u else gA G 80 0 t)
          exact (if_pos ⟨rfl, rfl, et2⟩).trans (if_pos ⟨rfl, rfl, e⟩).symm
        · show (if 232 = 232 ∧ (0:Int) = 0 ∧ t = (gF G 12 0 42) then (gF G 12 0 0) else gA G 232 0 t) = (if 81 = 81 ∧ (0:Int) = 0 ∧ t = (gF G 8 0 0) then (gF G 1 0 2) else gA G 81 0 t)
          exact (if_pos ⟨rfl, rfl, et2⟩).trans (ed.trans (if_pos ⟨rfl, rfl, e⟩).symm)
        · show (if 233 = 233 ∧ (0:Int) = 0 ∧ t = (gF G 12 0 42) then f0 else gA G 233 0 t) = (if 82 = 82 ∧ (0:Int) = 0 ∧ t = (gF G 8 0 0) then f0 else gA G 82 0 t)
          exact (if_pos ⟨rfl, rfl, et2⟩).trans (if_pos ⟨rfl, rfl, e⟩).symm
        · show bytesOk (if 79 = 79 ∧ (0:Int) = 0 ∧ t = (gF G 8 0 0) then (gF G 8 0 1) else gA G 79 0 t) (if 78 = 78 ∧ t = (gF G 8 0 0) then cpF (gA G 76 0) (gA G 78 (gF G 8 0 0)) (gF G 8 0 1) else gA G 78 t) (fun j => filF (fun j0 => 160 * (gF G 12 0 42) ≤ j0) (fun j0 => gA G 228 0 (j0 - 160 * (gF G 12 0 42))) (gA G 229 0) (160 * (gF G 12 0 42) + (gF G 12 0 36)) (160 * t + j))
          rw [if_pos ⟨rfl, rfl, e⟩, if_pos ⟨rfl, e⟩, et2]
          intro j j0 j1
          have h9 := iE.2 j j0 j1
          rw [cpF_in j0 j1]
          have h8 := hft j j0 (by omega)
          refine ⟨?_, ?_, ?_, h9.2.2.2⟩
          · exact h8.trans h9.1
          · exact Int.le_trans h9.2.1 (Int.le_of_eq h8.symm)
          · exact Int.le_trans (Int.le_of_eq h8) h9.2.2.1
        · show textOk (fun j => filF (fun j0 => 160 * (gF G 12 0 42) ≤ j0) (fun j0 => gA G 228 0 (j0 - 160 * (gF G 12 0 42))) (gA G 229 0) (160 * (gF G 12 0 42) + (gF G 12 0 36)) (160 * t + j)) (if 79 = 79 ∧ (0:Int) = 0 ∧ t = (gF G 8 0 0) then (gF G 8 0 1) else gA G 79 0 t)
          rw [if_pos ⟨rfl, rfl, e⟩, et2]
          exact ⟨L2, EvT_n et m3⟩
      · obtain ⟨⟨h1, h2, h3⟩, h4, h5, h6, h7, h8⟩ := iT.2 t t0 (by omega)
        have et2 : t ≠ (gF G 12 0 42) := by omega
        refine ⟨⟨?_, ?_, ?_⟩, ?_, ?_, ?_, ?_, ?_⟩
        · show (if 230 = 230 ∧ (0:Int) = 0 ∧ t = (gF G 12 0 42) then (gF G 12 0 36) else gA G 230 0 t) = (if 79 = 79 ∧ (0:Int) = 0 ∧ t = (gF G 8 0 0) then (gF G 8 0 1) else gA G 79 0 t)
          exact (if_neg (fun z => et2 z.2.2)).trans (h1.trans (if_neg (fun z => e z.2.2)).symm)
        · show 0 ≤ (if 79 = 79 ∧ (0:Int) = 0 ∧ t = (gF G 8 0 0) then (gF G 8 0 1) else gA G 79 0 t)
          rw [if_neg (fun z => e z.2.2)]; exact h2
        · show (if 79 = 79 ∧ (0:Int) = 0 ∧ t = (gF G 8 0 0) then (gF G 8 0 1) else gA G 79 0 t) ≤ 160
          rw [if_neg (fun z => e z.2.2)]; exact h3
        · show (if 231 = 231 ∧ (0:Int) = 0 ∧ t = (gF G 12 0 42) then u else gA G 231 0 t) = (if 80 = 80 ∧ (0:Int) = 0 ∧ t = (gF G 8 0 0) then u else gA G 80 0 t)
          exact (if_neg (fun z => et2 z.2.2)).trans (h4.trans (if_neg (fun z => e z.2.2)).symm)
        · show (if 232 = 232 ∧ (0:Int) = 0 ∧ t = (gF G 12 0 42) then (gF G 12 0 0) else gA G 232 0 t) = (if 81 = 81 ∧ (0:Int) = 0 ∧ t = (gF G 8 0 0) then (gF G 1 0 2) else gA G 81 0 t)
          exact (if_neg (fun z => et2 z.2.2)).trans (h5.trans (if_neg (fun z => e z.2.2)).symm)
        · show (if 233 = 233 ∧ (0:Int) = 0 ∧ t = (gF G 12 0 42) then f0 else gA G 233 0 t) = (if 82 = 82 ∧ (0:Int) = 0 ∧ t = (gF G 8 0 0) then f0 else gA G 82 0 t)
          exact (if_neg (fun z => et2 z.2.2)).trans (h6.trans (if_neg (fun z => e z.2.2)).symm)
        · show bytesOk (if 79 = 79 ∧ (0:Int) = 0 ∧ t = (gF G 8 0 0) then (gF G 8 0 1) else gA G 79 0 t) (if 78 = 78 ∧ t = (gF G 8 0 0) then cpF (gA G 76 0) (gA G 78 (gF G 8 0 0)) (gF G 8 0 1) else gA G 78 t) (fun j => filF (fun j0 => 160 * (gF G 12 0 42) ≤ j0) (fun j0 => gA G 228 0 (j0 - 160 * (gF G 12 0 42))) (gA G 229 0) (160 * (gF G 12 0 42) + (gF G 12 0 36)) (160 * t + j))
          rw [if_neg (fun z => e z.2.2), if_neg (fun z => e z.2)]
          intro j j0 j1
          have h9 := h7 j j0 j1
          have hz := hfo j (by omega)
          refine ⟨?_, ?_, ?_, h9.2.2.2⟩
          · exact hz.trans h9.1
          · exact Int.le_trans h9.2.1 (Int.le_of_eq hz.symm)
          · exact Int.le_trans (Int.le_of_eq hz) h9.2.2.1
        · show textOk (fun j => filF (fun j0 => 160 * (gF G 12 0 42) ≤ j0) (fun j0 => gA G 228 0 (j0 - 160 * (gF G 12 0 42))) (gA G 229 0) (160 * (gF G 12 0 42) + (gF G 12 0 36)) (160 * t + j)) (if 79 = 79 ∧ (0:Int) = 0 ∧ t = (gF G 8 0 0) then (gF G 8 0 1) else gA G 79 0 t)
          rw [if_neg (fun z => e z.2.2)]
          exact textOk_cg (fun j j0 j1 => (hfo j (by omega)).symm) h8
