theorem bt_0 {j : Int} (h : 0 ≤ j ∧ j < 8) : ¬ bt 0 j := by
  have key : ∀ k : Nat, k < 8 → pAnd (pShr 0 k) 1 = 0 := by decide +kernel
  have := key j.toNat (by omega)
  rw [Int.toNat_of_nonneg h.1] at this
  unfold bt
  omega
theorem vd_iff {aw st pc ld : Prop} {a b c d : Int} : vdF (b2i aw) (b2i st) a b c d (b2i pc) (b2i ld) = 0 ↔ (¬ aw ∧ ¬ st ∧ ¬ pc ∧ ¬ ld) ∧ a ≤ b ∧ c ≤ d := by
  constructor
  · intro h
    by_cases h1 : aw
    · rw [vd_1 h1] at h; omega
    by_cases h2 : st
    · rw [vd_2 h1 h2] at h; omega
    by_cases h3 : b < a
    · rw [vd_3 h1 h2 h3] at h; omega
    by_cases h4 : d < c
    · rw [vd_4 h1 h2 (by omega) h4] at h; omega
    by_cases h5 : pc
    · rw [vd_5 h1 h2 (by omega) (by omega) h5] at h; omega
    by_cases h6 : ld
    · rw [vd_6 h1 h2 (by omega) (by omega) h5 h6] at h; omega
    exact ⟨⟨h1, h2, h5, h6⟩, by omega, by omega⟩
  · rintro ⟨⟨h1, h2, h5, h6⟩, h3, h4⟩
    exact vd_0 h1 h2 h3 h4 h5 h6
theorem lt_vd {G : PH} {ST : Int → Int → Int → Prop} {WT : Int → Int → Int → Int → Int} {a b : Int} : vdC G ST WT a b = 0 ↔ ltC G ST WT a b := by
  unfold vdC
  rw [vd_iff]
  unfold ltC okC
  constructor
  · rintro ⟨⟨h1, h2, h5, h6⟩, h3, h4⟩
    exact ⟨⟨fun z => h1 (Or.inl z), fun z => h2 (Or.inl z), fun z => h5 (Or.inl z), fun z => h6 (Or.inl z)⟩, ⟨fun z => h1 (Or.inr z), fun z => h2 (Or.inr z), fun z => h5 (Or.inr z), fun z => h6 (Or.inr z)⟩, h3, h4⟩
  · rintro ⟨⟨a1, a2, a3, a4⟩, ⟨b1, b2, b3, b4⟩, h3, h4⟩
    exact ⟨⟨nor a1 b1, nor a2 b2, nor a3 b3, nor a4 b4⟩, h3, h4⟩
section BO
variable {G : PH}
theorem sm_0s {w : Int → Int} {n : Int} (hn : 0 ≤ n ∧ n ≤ 7) : smF w 0 n = 0 := by
  refine nat_ind (p := fun n => n ≤ 7 → smF w 0 n = 0) (fun _ => rfl) (fun n hn ih h => ?_) n hn.1 hn.2
  rw [sm_f hn (bt_0 (by omega))]
  exact ih (by omega)
theorem ok_0 {ST : Int → Int → Int → Prop} {s : Int} (hn : 0 ≤ (gA G 94 0 (s)) ∧ (gA G 94 0 (s)) ≤ 7) : okC G ST s 0 := by
  refine ⟨?_, ?_, ?_, ?_⟩
  · rintro ⟨i, a, b, c, _⟩
    exact bt_0 (by omega) c
  · rintro ⟨i, a, b, c, _⟩
    exact bt_0 (by omega) c
  · rintro ⟨i, a, b, c, j, d, e, f, g⟩
    exact g ⟨fun z => absurd z (bt_0 (by omega)), fun z => absurd z (bt_0 (by omega))⟩
  · rintro ⟨c, a, b, h⟩
    rw [cnt_none hn.1 (fun i x y z => bt_0 (by omega) z.1.1)] at h
    omega
theorem lt_00 {ST : Int → Int → Int → Prop} {WT : Int → Int → Int → Int → Int} (h0 : 0 ≤ (gA G 94 0 (0)) ∧ (gA G 94 0 (0)) ≤ 7) (h1 : 0 ≤ (gA G 94 0 (1)) ∧ (gA G 94 0 (1)) ≤ 7) : ltC G ST WT 0 0 := by
  refine ⟨ok_0 h0, ok_0 h1, ?_, ?_⟩
  · unfold wfC
    rw [sm_0s h0, sm_0s h1]; exact Int.le_refl 0
  · unfold wfC
    rw [sm_0s h0, sm_0s h1]; exact Int.le_refl 0
end BO
section BQ
variable {OK OK2 : Int → Int → Prop}
theorem bstS_q {a b : Int} {s : BS} (h : 0 ≤ s.1) : 0 ≤ (bstS OK a b s).1 := by
  by_cases z : (s.1 < pcF a + pcF b ∨ (pcF a + pcF b = s.1 ∧ absI (pcF a - pcF b) < s.2.1)) ∧ OK a b
  · rw [bst_t z]
    have := pc_in (a := a)
    have := pc_in (a := b)
    show 0 ≤ pcF a + pcF b
    omega
  · rw [bst_f z]; exact h
theorem bstB_q {n1 a : Int} {s : BS} (hn : 0 ≤ n1) (h : 0 ≤ s.1) : 0 ≤ (bstB OK n1 a s).1 := by
  unfold bstB
  refine nat_ind (p := fun n => 0 ≤ (iterI (fun b => bstS OK a b) n s).1) h (fun n hn ih => ?_) n1 hn
  show 0 ≤ (iterI (fun b => bstS OK a b) (n + 1) s).1
  rw [iter_s _ hn]
  exact bstS_q ih
theorem bstB_1 {n1 : Int} {s : BS} (h0 : OK 0 0) (hn : 1 ≤ n1) (h : s.1 = -1) : 0 ≤ (bstB OK n1 0 s).1 := by
  unfold bstB
  have key := nat_ind (p := fun n => 0 ≤ (iterI (fun b => bstS OK 0 b) (n + 1) s).1) (by
    show 0 ≤ (iterI (fun b => bstS OK 0 b) (0 + 1) s).1
    rw [iter_s _ (Int.le_refl 0), iter_0, bst_t ⟨Or.inl (by rw [h]; decide), h0⟩]
    decide) (fun n hn ih => by
    show 0 ≤ (iterI (fun b => bstS OK 0 b) (n + 1 + 1) s).1
    rw [iter_s _ (show 0 ≤ n + 1 by omega)]
    exact bstS_q ih) (n1 - 1) (by omega)
  rw [show n1 - 1 + 1 = n1 by omega] at key
  exact key
theorem bstF_1 {n0 n1 : Int} {s : BS} (h0 : OK 0 0) (hm : 1 ≤ n0) (hn : 1 ≤ n1) (h : s.1 = -1) : 0 ≤ (bstF OK n0 n1 s).1 := by
  unfold bstF
  have key := nat_ind (p := fun n => 0 ≤ (iterI (fun a => bstB OK n1 a) (n + 1) s).1) (by
    show 0 ≤ (iterI (fun a => bstB OK n1 a) (0 + 1) s).1
    rw [iter_s _ (Int.le_refl 0), iter_0]
    exact bstB_1 h0 hn h) (fun n hm ih => by
    show 0 ≤ (iterI (fun a => bstB OK n1 a) (n + 1 + 1) s).1
    rw [iter_s _ (show 0 ≤ n + 1 by omega)]
    exact bstB_q (by omega) ih) (n0 - 1) (by omega)
  rw [show n0 - 1 + 1 = n0 by omega] at key
  exact key
def bsR (s t : BS) : Prop := s = t ∨ (s.1 = -1 ∧ t.1 = -1 ∧ s.2.1 = 0 ∧ t.2.1 = 0)
theorem bstS_r {a b : Int} {s t : BS} (ho : ∀ a b, OK a b ↔ OK2 a b) (h : bsR s t) : bsR (bstS OK a b s) (bstS OK2 a b t) := by
  have e : s.1 = t.1 ∧ s.2.1 = t.2.1 := by
    rcases h with h | h
    · rw [h]; exact ⟨rfl, rfl⟩
    · omega
  by_cases z : (s.1 < pcF a + pcF b ∨ (pcF a + pcF b = s.1 ∧ absI (pcF a - pcF b) < s.2.1)) ∧ OK a b
  · rw [bst_t z, bst_t (by rw [← e.1, ← e.2, ← ho]; exact z)]
    exact Or.inl rfl
  · rw [bst_f z, bst_f (by rw [← e.1, ← e.2, ← ho]; exact z)]
    exact h
theorem bstF_r {n0 n1 : Int} {s t : BS} (hm : 0 ≤ n0) (hn : 0 ≤ n1) (ho : ∀ a b, OK a b ↔ OK2 a b) (h : bsR s t) : bsR (bstF OK n0 n1 s) (bstF OK2 n0 n1 t) := by
  unfold bstF
  refine iter_sim (p := bsR) hm h (fun i s t _ _ h => ?_)
  unfold bstB
  exact iter_sim (p := bsR) hn h (fun j s t _ _ h => bstS_r ho h)
theorem bst_same {n0 n1 x y x2 y2 : Int} (h0 : OK 0 0) (hm : 1 ≤ n0) (hn : 1 ≤ n1) (ho : ∀ a b, OK a b ↔ OK2 a b) : bstF OK2 n0 n1 (-1, 0, x2, y2) = bstF OK n0 n1 (-1, 0, x, y) ∧ 0 ≤ (bstF OK n0 n1 (-1, 0, x, y)).1 := by
  have h := bstF_1 (s := (-1, 0, x, y)) h0 hm hn rfl
  have r := bstF_r (s := (-1, 0, x, y)) (t := (-1, 0, x2, y2)) (n0 := n0) (n1 := n1) (by omega) (by omega) ho (Or.inr ⟨rfl, rfl, rfl, rfl⟩)
  refine ⟨?_, h⟩
  rcases r with r | r
  · exact r.symm
  · omega
end BQ
theorem lt_eq {np : Nat} {G : PH} (iL : ILand G G) (iP : IPers np 150 G G) (iF : IFact G G) (iO : IProm G G) (iT : IText G G) (iX : ITrade G G) (iJ : ISide G G) (a b : Int) : ltC G (stC G) (wtC G) a b ↔ ltM G (stM G) (wtM G) a b := by
  unfold ltM
  rw [vd_eq iL iP iF iO iT iX iJ]
  exact lt_vd.symm
theorem Inv_jdg {np : Nat} {G : PH} {g : WQ} {g2 : FQ} {gg : Int → Int} (h : Inv np G G) : Inv np (uA (fndM (wghC G g) g2) 247 0 gg) (uA (fndM (wghC G g) g2) 247 0 gg) := h
set_option maxRecDepth 10000 in
theorem call_judge {l : Launch} {w : Wo} {d : Nat} {G : PH} (hI : Inv w.1.2 G G) {set0 : Int} {set1 : Int} : CallOk l w d M_X11_judge M_X12_judge [some (vR 11 (0)), some (vI (set0)), some (vI (set1))] [some (vR 12 (0)), some (vI (set0)), some (vI (set1))] G := by
  have hI0 := hI
  obtain ⟨iL, iP, iS, iF, iO, iE, iT, iR, iB, iX, iH, iG, iQ, iN, iA, iJ⟩ := hI
  have hsz : 0 ≤ (gF G 1 0 1) ∧ (gF G 1 0 1) ≤ 150 := by have := iP.1; omega
  have ep : (gF G 12 0 17) = (gF G 1 0 1) := iP.1.2.2
  have mhsz : 0 ≤ (gF G 12 0 17) ∧ (gF G 12 0 17) ≤ 150 := by omega
  have hp : ∀ i, 0 ≤ i → i < (gF G 1 0 1) → gD G 30 0 i = some (3, i) := fun i a b => (iP.2.2.2 i a b).1.1
  have hcw := cnt_le (owP G) hsz.1
  have es : (gF G 12 0 22) = (gF G 1 0 3) := iS.1.1
  have hst : 0 ≤ (gF G 1 0 3) ∧ (gF G 1 0 3) ≤ 400 := by have := iS.1; omega
  have mhst : 0 ≤ (gF G 12 0 22) ∧ (gF G 12 0 22) ≤ 400 := by omega
  have hday : 0 ≤ (gF G 1 0 2) ∧ (gF G 1 0 2) ≤ 600 := iP.2.1.2
  have ed : (gF G 12 0 0) = (gF G 1 0 2) := iP.2.1.1
  have hf : 0 ≤ (gF G 9 0 0) ∧ (gF G 9 0 0) ≤ 300 := iF.1.2
  have ef : (gF G 12 0 27) = (gF G 9 0 0) := iF.1.1
  have mhf : 0 ≤ (gF G 12 0 27) ∧ (gF G 12 0 27) ≤ 300 := by omega
  have hlt : 0 ≤ (gF G 9 0 1) ∧ (gF G 9 0 1) ≤ 60 := iF.2.1.2
  have el : (gF G 12 0 29) = (gF G 9 0 1) := iF.2.1.1
  have mhlt : 0 ≤ (gF G 12 0 29) ∧ (gF G 12 0 29) ≤ 60 := by omega
  have mhofs : ∀ i, 0 ≤ i → i < (gF G 12 0 27) → 0 ≤ (gA G 219 0 (i)) ∧ (gA G 219 0 (i)) < 150 := fun i a b => by have := (iF.2.2.2.2.2 i a (by omega)).1; omega
  have mhsent : ∀ l, 0 ≤ l → l < (gF G 12 0 29) → 0 ≤ (gA G 223 0 (l)) ∧ (gA G 223 0 (l)) ≤ 600 := fun l a b => by have := iF.2.2.2.1 l a (by omega); omega
  have hpr : 0 ≤ (gF G 9 0 2) ∧ (gF G 9 0 2) ≤ 40 := iO.1.2
  have epr : (gF G 12 0 34) = (gF G 9 0 2) := iO.1.1
  have mhpr : 0 ≤ (gF G 12 0 34) ∧ (gF G 12 0 34) ≤ 40 := by omega
  have htx : 0 ≤ (gF G 8 0 0) ∧ (gF G 8 0 0) ≤ 20 := iT.1.2
  have etx : (gF G 12 0 42) = (gF G 8 0 0) := iT.1.1
  have mhtx : 0 ≤ (gF G 12 0 42) ∧ (gF G 12 0 42) ≤ 20 := by omega
  have hTX := (tx_both iT).1
  have mhTX := (tx_both iT).2
  have hnA : ∀ i, 0 ≤ i → i < (gF G 1 0 1) → (gF G 3 (i) 0) = i := fun i a b => (iP.2.2.2 i a b).1.2
  have hcA : ∀ i, 0 ≤ i → i < (gF G 1 0 1) → 0 ≤ (gF G 3 (i) 5) ∧ (gF G 3 (i) 5) ≤ 600 := fun i a b => by have := (iP.2.2.2 i a b).2.2.2.2.2.1; omega
  have hsA : ∀ i, 0 ≤ i → i < (gF G 1 0 1) → 0 ≤ (gF G 3 (i) 2) ∧ (gF G 3 (i) 2) ≤ 1 := fun i a b => by have := (iP.2.2.2 i a b).2.2.1; omega
  have mhcA : ∀ i, 0 ≤ i → i < (gF G 12 0 17) → 0 ≤ (gA G 212 0 (i)) ∧ (gA G 212 0 (i)) ≤ 600 := fun i a b => by have := (iP.2.2.2 i a (by omega)).2.2.2.2.2.1; omega
  have mhsA : ∀ i, 0 ≤ i → i < (gF G 12 0 17) → 0 ≤ (gA G 205 0 (i)) ∧ (gA G 205 0 (i)) ≤ 1 := fun i a b => by have := (iP.2.2.2 i a (by omega)).2.2.1; omega
  have e0 : (gA G 243 0 (0)) = (gA G 94 0 (0)) := (iX.1 0 (by decide) (by decide)).1.1
  have e1 : (gA G 243 0 (1)) = (gA G 94 0 (1)) := (iX.1 1 (by decide) (by decide)).1.1
  have hof : ∀ la, 0 ≤ la → la < 2 → 0 ≤ (gA G 94 0 (la)) ∧ (gA G 94 0 (la)) ≤ 7 := fun s a b => (iX.1 s a b).1.2
  have mhof : ∀ s, 0 ≤ s → s < 2 → 0 ≤ (gA G 243 0 (s)) ∧ (gA G 243 0 (s)) ≤ 7 := fun s a b => by have := (iX.1 s a b).1; omega
  have hlv : ∀ la i, 0 ≤ la → la < 2 → 0 ≤ i → i < (gA G 94 0 (la)) → 0 ≤ (gA G 93 (la) (i)) ∧ (gA G 93 (la) (i)) < (gF G 1 0 1) := fun s i a b x y => (l_in iX a b x y).1
  have hdi : ∀ la i j, 0 ≤ la → la < 2 → 0 ≤ i → i < j → j < (gA G 94 0 (la)) → (gA G 93 (la) (i)) ≠ (gA G 93 (la) (j)) := fun s i j a b x y z => (iX.1 s a b).2.2.1 i j x y z
  have mhlv : ∀ s i, 0 ≤ s → s < 2 → 0 ≤ i → i < (gA G 243 0 (s)) → 0 ≤ (gA G 242 0 (7 * s + i)) ∧ (gA G 242 0 (7 * s + i)) < (gF G 12 0 17) := fun s i a b x y => by
    have e := off_eq iX a b
    have y1 : i < (gA G 94 0 (s)) := by omega
    rw [e.2 i x y1, ep]; exact hlv s i a b x y1
  have hdd : 0 ≤ (gF G 1 0 2) ∧ (gF G 1 0 2) ≤ 600 := iP.2.1.2
  have edd : (gF G 12 0 0) = (gF G 1 0 2) := iP.2.1.1
  have mhdd : 0 ≤ (gF G 12 0 0) ∧ (gF G 12 0 0) ≤ 600 := by rw [edd]; exact hdd
  have hr : 1 ≤ (gF G 10 0 5) ∧ (gF G 10 0 5) ≤ 99 := iX.2.2
  have mhr : 1 ≤ (gF G 12 0 62) ∧ (gF G 12 0 62) ≤ 99 := by have : (gF G 12 0 62) = (gF G 10 0 5) := iX.2.1; omega
  have mhc : 0 ≤ (gF G 12 0 3) ∧ (gF G 12 0 3) ≤ 16 := by have h9 := iL.1; omega
  have mhwi : ∀ x, 0 ≤ x → x < (gF G 12 0 17) → (gA G 209 0 (x)) = -1 ∨ (0 ≤ (gA G 209 0 (x)) ∧ (gA G 209 0 (x)) < (gF G 12 0 17)) := fun x a b => by
    have h9 := (iP.2.2.2 x a (by omega)).2.2.2.2.1
    rw [h9.1, ep]
    rcases h9.2 with h8 | h8
    · exact Or.inl h8
    · exact Or.inr ⟨h8.2.1, by omega⟩
  unfold CallOk CallPhi
  refine sp_X11_judge (d := d + 868) (by exact hp) (by exact hsz) (by exact hf) (by exact hpr) (by exact htx) (by exact hTX) (rfl) (rfl) (rfl) (by exact hnA) (by exact hcA) (by exact hsA) (by exact hlv) (by exact hdi) (by exact hof) (by exact hdd) (by exact hr) (rfl) (rfl) ?_ ?_
  · intro c1
    refine sp_X12_judge (d := d + 899) (by exact mhsz) (by exact mhf) (by exact mhlt) (by exact mhofs) (by exact mhsent) (by exact mhpr) (by exact mhtx) (by exact mhTX) (rfl) (rfl) (rfl) (by exact mhcA) (by exact mhsA) (by exact mhlv) (by exact mhof) (by exact mhdd) (by exact mhwi) (by exact mhc) (by exact mhr) (rfl) (rfl) ?_ ?_
    · intro x1
      exact ⟨⟨rfl, _, rfl⟩, hI0⟩
    · intro x1 g2 gg2
      exfalso
      have q0 : pShl 1 (gA G 243 0 (0)) = pShl 1 (gA G 94 0 (0)) := by rw [e0]
      have q1 : pShl 1 (gA G 243 0 (1)) = pShl 1 (gA G 94 0 (1)) := by rw [e1]
      omega
  · intro c1 g
    refine sp_X12_judge (d := d + 899) (by exact mhsz) (by exact mhf) (by exact mhlt) (by exact mhofs) (by exact mhsent) (by exact mhpr) (by exact mhtx) (by exact mhTX) ((show sdM (wghC G g) = sdM G from rfl)) ((show fcM (wghC G g) = fcM G from rfl)) ((show kM (wghC G g) = kM G from rfl)) (by exact mhcA) (by exact mhsA) (by exact mhlv) (by exact mhof) (by exact mhdd) (by exact mhwi) (by exact mhc) (by exact mhr) ((show stM (wghC G g) = stM G from rfl)) ((show wtM (wghC G g) = wtM G from rfl)) ?_ ?_
    · intro x1
      replace x1 : ¬ ((0 ≤ set0 ∧ set0 < pShl 1 (gA G 243 0 (0))) ∧ 0 ≤ set1 ∧ set1 < pShl 1 (gA G 243 0 (1))) := x1
      exfalso
      have q0 : pShl 1 (gA G 243 0 (0)) = pShl 1 (gA G 94 0 (0)) := by rw [e0]
      have q1 : pShl 1 (gA G 243 0 (1)) = pShl 1 (gA G 94 0 (1)) := by rw [e1]
      omega
    · intro x1 g2 gg2
      exact ⟨⟨congrArg (fun x => some (vI x)) (vd_eq iL iP iF iO iT iX iJ set0 set1), _, rfl⟩, Inv_jdg hI0⟩
set_option maxRecDepth 10000 in
theorem call_best {l : Launch} {w : Wo} {d : Nat} {G : PH} (hI : Inv w.1.2 G G)  : CallOk l w d M_X11_best M_X12_best [some (vR 11 (0))] [some (vR 12 (0)), none, none, none, none, none] G := by
  have hI0 := hI
  obtain ⟨iL, iP, iS, iF, iO, iE, iT, iR, iB, iX, iH, iG, iQ, iN, iA, iJ⟩ := hI
  have hsz : 0 ≤ (gF G 1 0 1) ∧ (gF G 1 0 1) ≤ 150 := by have := iP.1; omega
  have ep : (gF G 12 0 17) = (gF G 1 0 1) := iP.1.2.2
  have mhsz : 0 ≤ (gF G 12 0 17) ∧ (gF G 12 0 17) ≤ 150 := by omega
  have hp : ∀ i, 0 ≤ i → i < (gF G 1 0 1) → gD G 30 0 i = some (3, i) := fun i a b => (iP.2.2.2 i a b).1.1
  have hcw := cnt_le (owP G) hsz.1
  have es : (gF G 12 0 22) = (gF G 1 0 3) := iS.1.1
  have hst : 0 ≤ (gF G 1 0 3) ∧ (gF G 1 0 3) ≤ 400 := by have := iS.1; omega
  have mhst : 0 ≤ (gF G 12 0 22) ∧ (gF G 12 0 22) ≤ 400 := by omega
  have hday : 0 ≤ (gF G 1 0 2) ∧ (gF G 1 0 2) ≤ 600 := iP.2.1.2
  have ed : (gF G 12 0 0) = (gF G 1 0 2) := iP.2.1.1
  have hf : 0 ≤ (gF G 9 0 0) ∧ (gF G 9 0 0) ≤ 300 := iF.1.2
  have ef : (gF G 12 0 27) = (gF G 9 0 0) := iF.1.1
  have mhf : 0 ≤ (gF G 12 0 27) ∧ (gF G 12 0 27) ≤ 300 := by omega
  have hlt : 0 ≤ (gF G 9 0 1) ∧ (gF G 9 0 1) ≤ 60 := iF.2.1.2
  have el : (gF G 12 0 29) = (gF G 9 0 1) := iF.2.1.1
  have mhlt : 0 ≤ (gF G 12 0 29) ∧ (gF G 12 0 29) ≤ 60 := by omega
  have mhofs : ∀ i, 0 ≤ i → i < (gF G 12 0 27) → 0 ≤ (gA G 219 0 (i)) ∧ (gA G 219 0 (i)) < 150 := fun i a b => by have := (iF.2.2.2.2.2 i a (by omega)).1; omega
  have mhsent : ∀ l, 0 ≤ l → l < (gF G 12 0 29) → 0 ≤ (gA G 223 0 (l)) ∧ (gA G 223 0 (l)) ≤ 600 := fun l a b => by have := iF.2.2.2.1 l a (by omega); omega
  have hpr : 0 ≤ (gF G 9 0 2) ∧ (gF G 9 0 2) ≤ 40 := iO.1.2
  have epr : (gF G 12 0 34) = (gF G 9 0 2) := iO.1.1
  have mhpr : 0 ≤ (gF G 12 0 34) ∧ (gF G 12 0 34) ≤ 40 := by omega
  have htx : 0 ≤ (gF G 8 0 0) ∧ (gF G 8 0 0) ≤ 20 := iT.1.2
  have etx : (gF G 12 0 42) = (gF G 8 0 0) := iT.1.1
  have mhtx : 0 ≤ (gF G 12 0 42) ∧ (gF G 12 0 42) ≤ 20 := by omega
  have hTX := (tx_both iT).1
  have mhTX := (tx_both iT).2
  have hnA : ∀ i, 0 ≤ i → i < (gF G 1 0 1) → (gF G 3 (i) 0) = i := fun i a b => (iP.2.2.2 i a b).1.2
  have hcA : ∀ i, 0 ≤ i → i < (gF G 1 0 1) → 0 ≤ (gF G 3 (i) 5) ∧ (gF G 3 (i) 5) ≤ 600 := fun i a b => by have := (iP.2.2.2 i a b).2.2.2.2.2.1; omega
  have hsA : ∀ i, 0 ≤ i → i < (gF G 1 0 1) → 0 ≤ (gF G 3 (i) 2) ∧ (gF G 3 (i) 2) ≤ 1 := fun i a b => by have := (iP.2.2.2 i a b).2.2.1; omega
  have mhcA : ∀ i, 0 ≤ i → i < (gF G 12 0 17) → 0 ≤ (gA G 212 0 (i)) ∧ (gA G 212 0 (i)) ≤ 600 := fun i a b => by have := (iP.2.2.2 i a (by omega)).2.2.2.2.2.1; omega
  have mhsA : ∀ i, 0 ≤ i → i < (gF G 12 0 17) → 0 ≤ (gA G 205 0 (i)) ∧ (gA G 205 0 (i)) ≤ 1 := fun i a b => by have := (iP.2.2.2 i a (by omega)).2.2.1; omega
  have e0 : (gA G 243 0 (0)) = (gA G 94 0 (0)) := (iX.1 0 (by decide) (by decide)).1.1
  have e1 : (gA G 243 0 (1)) = (gA G 94 0 (1)) := (iX.1 1 (by decide) (by decide)).1.1
  have hof : ∀ la, 0 ≤ la → la < 2 → 0 ≤ (gA G 94 0 (la)) ∧ (gA G 94 0 (la)) ≤ 7 := fun s a b => (iX.1 s a b).1.2
  have mhof : ∀ s, 0 ≤ s → s < 2 → 0 ≤ (gA G 243 0 (s)) ∧ (gA G 243 0 (s)) ≤ 7 := fun s a b => by have := (iX.1 s a b).1; omega
  have hlv : ∀ la i, 0 ≤ la → la < 2 → 0 ≤ i → i < (gA G 94 0 (la)) → 0 ≤ (gA G 93 (la) (i)) ∧ (gA G 93 (la) (i)) < (gF G 1 0 1) := fun s i a b x y => (l_in iX a b x y).1
  have hdi : ∀ la i j, 0 ≤ la → la < 2 → 0 ≤ i → i < j → j < (gA G 94 0 (la)) → (gA G 93 (la) (i)) ≠ (gA G 93 (la) (j)) := fun s i j a b x y z => (iX.1 s a b).2.2.1 i j x y z
  have mhlv : ∀ s i, 0 ≤ s → s < 2 → 0 ≤ i → i < (gA G 243 0 (s)) → 0 ≤ (gA G 242 0 (7 * s + i)) ∧ (gA G 242 0 (7 * s + i)) < (gF G 12 0 17) := fun s i a b x y => by
    have e := off_eq iX a b
    have y1 : i < (gA G 94 0 (s)) := by omega
    rw [e.2 i x y1, ep]; exact hlv s i a b x y1
  have hdd : 0 ≤ (gF G 1 0 2) ∧ (gF G 1 0 2) ≤ 600 := iP.2.1.2
  have edd : (gF G 12 0 0) = (gF G 1 0 2) := iP.2.1.1
  have mhdd : 0 ≤ (gF G 12 0 0) ∧ (gF G 12 0 0) ≤ 600 := by rw [edd]; exact hdd
  have hr : 1 ≤ (gF G 10 0 5) ∧ (gF G 10 0 5) ≤ 99 := iX.2.2
  have mhr : 1 ≤ (gF G 12 0 62) ∧ (gF G 12 0 62) ≤ 99 := by have : (gF G 12 0 62) = (gF G 10 0 5) := iX.2.1; omega
  have mhc : 0 ≤ (gF G 12 0 3) ∧ (gF G 12 0 3) ≤ 16 := by have h9 := iL.1; omega
  have mhwi : ∀ x, 0 ≤ x → x < (gF G 12 0 17) → (gA G 209 0 (x)) = -1 ∨ (0 ≤ (gA G 209 0 (x)) ∧ (gA G 209 0 (x)) < (gF G 12 0 17)) := fun x a b => by
    have h9 := (iP.2.2.2 x a (by omega)).2.2.2.2.1
    rw [h9.1, ep]
    rcases h9.2 with h8 | h8
    · exact Or.inl h8
    · exact Or.inr ⟨h8.2.1, by omega⟩
  unfold CallOk CallPhi
  refine sp_X11_best (d := d + 866) (by exact hp) (by exact hsz) (by exact hf) (by exact hpr) (by exact htx) (by exact hTX) (rfl) (rfl) (rfl) (by exact hnA) (by exact hcA) (by exact hsA) (by exact hlv) (by exact hdi) (by exact hof) (by exact hdd) (by exact hr) (rfl) (rfl) ?_ ?_
  · intro c1
    refine sp_X12_best (d := d + 897) (by exact mhsz) (by exact mhf) (by exact mhlt) (by exact mhofs) (by exact mhsent) (by exact mhpr) (by exact mhtx) (by exact mhTX) (rfl) (rfl) (rfl) (by exact mhcA) (by exact mhsA) (by exact mhlv) (by exact mhof) (by exact mhdd) (by exact mhwi) (by exact mhc) (by exact mhr) (rfl) (rfl) ?_ ?_
    · intro x1
      exact ⟨⟨rfl, _, rfl⟩, hI0⟩
    · intro x1 g2 gg2 bs2 t2 x2 x3 x4
      exfalso
      omega
  · intro c1 g m0 sa0 sb0 m1 sa1 sb1 bs t c2 c3 c4
    refine sp_X12_best (d := d + 897) (by exact mhsz) (by exact mhf) (by exact mhlt) (by exact mhofs) (by exact mhsent) (by exact mhpr) (by exact mhtx) (by exact mhTX) ((show sdM (sA (sA (uA (uA (uA (uA (uA (uA (uA (wghC G g) 105 0 m0) 103 0 sa0) 103 1 sb0) 105 1 m1) 103 2 sa1) 103 3 sb1) 95 0 bs) 94 0 0 0) 94 0 1 0) = sdM G from rfl)) ((show fcM (sA (sA (uA (uA (uA (uA (uA (uA (uA (wghC G g) 105 0 m0) 103 0 sa0) 103 1 sb0) 105 1 m1) 103 2 sa1) 103 3 sb1) 95 0 bs) 94 0 0 0) 94 0 1 0) = fcM G from rfl)) ((show kM (sA (sA (uA (uA (uA (uA (uA (uA (uA (wghC G g) 105 0 m0) 103 0 sa0) 103 1 sb0) 105 1 m1) 103 2 sa1) 103 3 sb1) 95 0 bs) 94 0 0 0) 94 0 1 0) = kM G from rfl)) (by exact mhcA) (by exact mhsA) (by exact mhlv) (by exact mhof) (by exact mhdd) (by exact mhwi) (by exact mhc) (by exact mhr) ((show stM (sA (sA (uA (uA (uA (uA (uA (uA (uA (wghC G g) 105 0 m0) 103 0 sa0) 103 1 sb0) 105 1 m1) 103 2 sa1) 103 3 sb1) 95 0 bs) 94 0 0 0) 94 0 1 0) = stM G from rfl)) ((show wtM (sA (sA (uA (uA (uA (uA (uA (uA (uA (wghC G g) 105 0 m0) 103 0 sa0) 103 1 sb0) 105 1 m1) 103 2 sa1) 103 3 sb1) 95 0 bs) 94 0 0 0) 94 0 1 0) = wtM G from rfl)) ?_ ?_
    · intro x1
      replace x1 : ((gA G 243 0 (0)) = 0 ∨ (gA G 243 0 (1)) = 0) := x1
      exfalso
      omega
    · intro x1 g2 gg2 bs2 t2 x2 x3 x4
      replace x2 : t2 = bstF (ltM G (stM G) (wtM G)) (pShl 1 (gA G 243 0 (0))) (pShl 1 (gA G 243 0 (1))) (-1, 0, (gA G 244 0 (0)), (gA G 244 0 (1))) := x2
      have et : t2 = t ∧ 0 ≤ t.1 := by
        rw [x2, c2, e0, e1]
        exact bst_same (lt_00 (hof 0 (by decide) (by decide)) (hof 1 (by decide) (by decide))) (shl_in (hof 0 (by decide) (by decide))).1 (shl_in (hof 1 (by decide) (by decide))).1 (lt_eq iL iP iF iO iT iX iJ)
      refine ⟨⟨congrArg (fun x => some (vI x)) (congrArg (fun z : BS => z.1) et.1), _, rfl⟩, iL, iP, iS, iF, iO, iE, iT, iR, iB, ?_, iH, iG, iQ, iN, iA, iJ⟩
      refine ⟨fun s a b => ?_, iX.2⟩
      rcases (show s = 0 ∨ s = 1 by omega) with z | z
      · rw [z]; exact ⟨⟨rfl, by show (0 : Int) ≤ 0; omega, by show (0 : Int) ≤ 7; omega⟩, fun i x y => absurd y (by show ¬ i < 0; omega), fun i j x y z => absurd z (by show ¬ j < 0; omega), (by show bs 0 = if 0 ≤ t2.1 then bs2 0 else -1; rw [if_pos (by rw [et.1]; exact et.2), c3, x3, et.1])⟩
      · rw [z]; exact ⟨⟨rfl, by show (0 : Int) ≤ 0; omega, by show (0 : Int) ≤ 7; omega⟩, fun i x y => absurd y (by show ¬ i < 0; omega), fun i j x y z => absurd z (by show ¬ j < 0; omega), (by show bs 1 = if 0 ≤ t2.1 then bs2 1 else -1; rw [if_pos (by rw [et.1]; exact et.2), c4, x4, et.1])⟩
