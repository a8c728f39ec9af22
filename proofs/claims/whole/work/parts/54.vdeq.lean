theorem cnt_list {R : Int → Prop} {L : Int → Int} {set N : Int} (n : Int) (hn : 0 ≤ n) : (∀ i, 0 ≤ i → i < n → 0 ≤ L i ∧ L i < N) → (∀ i j, 0 ≤ i → i < j → j < n → L i ≠ L j) → cnt (fun p => R p ∧ ¬ (∃ i, 0 ≤ i ∧ i < n ∧ bt set i ∧ L i = p)) N + cnt (fun i => bt set i ∧ R (L i)) n = cnt R N := by
  refine nat_ind (p := fun n => (∀ i, 0 ≤ i → i < n → 0 ≤ L i ∧ L i < N) → (∀ i j, 0 ≤ i → i < j → j < n → L i ≠ L j) → cnt (fun p => R p ∧ ¬ (∃ i, 0 ≤ i ∧ i < n ∧ bt set i ∧ L i = p)) N + cnt (fun i => bt set i ∧ R (L i)) n = cnt R N) (fun _ _ => ?_) (fun n hn ih hL hd => ?_) n hn
  · rw [cnt_0, Int.add_zero]
    exact cnt_congr fun p a b => ⟨fun h => h.1, fun h => ⟨h, fun ⟨i, x, y, _⟩ => by omega⟩⟩
  · have h1 := ih (fun i a b => hL i a (by omega)) (fun i j a b c => hd i j a b (by omega))
    have hLn := hL n hn (by omega)
    by_cases e : bt set n ∧ R (L n)
    · rw [cnt_t hn e]
      have h2 : cnt (fun p => R p ∧ ¬ (∃ i, 0 ≤ i ∧ i < n ∧ bt set i ∧ L i = p)) N = cnt (fun p => R p ∧ ¬ (∃ i, 0 ≤ i ∧ i < n + 1 ∧ bt set i ∧ L i = p)) N + 1 := by
        refine cnt_ins hLn.1 hLn.2 (fun h => h.2 ⟨n, hn, by omega, e.1, rfl⟩) (fun x => ⟨fun h => ?_, fun h => ?_⟩)
        · by_cases y : x = L n
          · exact Or.inr y
          · refine Or.inl ⟨h.1, fun ⟨i, a, b, c, d⟩ => ?_⟩
            by_cases z : i = n
            · rw [z] at d; exact y d.symm
            · exact h.2 ⟨i, a, by omega, c, d⟩
        · rcases h with h | h
          · exact ⟨h.1, fun ⟨i, a, b, c, d⟩ => h.2 ⟨i, a, by omega, c, d⟩⟩
          · rw [h]
            exact ⟨e.2, fun ⟨i, a, b, c, d⟩ => hd i n a b (by omega) d⟩
      omega
    · rw [cnt_f hn e]
      have h2 : cnt (fun p => R p ∧ ¬ (∃ i, 0 ≤ i ∧ i < n + 1 ∧ bt set i ∧ L i = p)) N = cnt (fun p => R p ∧ ¬ (∃ i, 0 ≤ i ∧ i < n ∧ bt set i ∧ L i = p)) N := by
        refine cnt_congr fun x _ _ => ⟨fun h => ⟨h.1, fun ⟨i, a, b, c, d⟩ => h.2 ⟨i, a, by omega, c, d⟩⟩, fun h => ⟨h.1, fun ⟨i, a, b, c, d⟩ => ?_⟩⟩
        by_cases z : i = n
        · rw [z] at c d
          exact e ⟨c, by rw [d]; exact h.1⟩
        · exact h.2 ⟨i, a, by omega, c, d⟩
      omega
section TR
variable {np : Nat} {G : PH}
theorem off_eq (iX : ITrade G G) {s : Int} (a : 0 ≤ s) (b : s < 2) : (gA G 243 0 (s)) = (gA G 94 0 (s)) ∧ ∀ i, 0 ≤ i → i < (gA G 94 0 (s)) → (gA G 242 0 (7 * s + i)) = (gA G 93 (s) (i)) := by
  have h := iX.1 s a b
  exact ⟨h.1.1, fun i x y => (h.2.1 i x y).1⟩
theorem l_in (iX : ITrade G G) {s : Int} (a : 0 ≤ s) (b : s < 2) {i : Int} (x : 0 ≤ i) (y : i < (gA G 94 0 (s))) : (0 ≤ (gA G 93 (s) (i)) ∧ (gA G 93 (s) (i)) < (gF G 1 0 1)) ∧ (gF G 3 ((gA G 93 (s) (i))) 2) = s := by
  have h := (iX.1 s a b).2.1 i x y
  exact ⟨⟨h.2.1, h.2.2.1⟩, h.2.2.2⟩
theorem l_one (iX : ITrade G G) {s : Int} (a : 0 ≤ s) (b : s < 2) {i j : Int} (x : 0 ≤ i) (y : i < (gA G 94 0 (s))) (x1 : 0 ≤ j) (y1 : j < (gA G 94 0 (s))) (h : (gA G 93 (s) (i)) = (gA G 93 (s) (j))) : i = j := by
  have hd := (iX.1 s a b).2.2.1
  rcases Int.lt_trichotomy i j with q | q | q
  · exact absurd h (hd i j x q y1)
  · exact q
  · exact absurd h.symm (hd j i x1 q y)
theorem aw_eq (iP : IPers np 150 G G) (iX : ITrade G G) {s set : Int} (a : 0 ≤ s) (b : s < 2) : awM G s set ↔ awC G s set := by
  obtain ⟨e, f⟩ := off_eq iX a b
  unfold awM awC
  constructor
  · rintro ⟨i, x, y, z, h⟩
    have y' : i < (gA G 94 0 (s)) := by omega
    have hl := l_in iX a b x y'
    refine ⟨i, x, y', z, ?_⟩
    rw [f i x y', (iP.2.2.2 _ hl.1.1 hl.1.2).2.2.2.2.2.2.2.2.1.1] at h
    exact h
  · rintro ⟨i, x, y, z, h⟩
    have hl := l_in iX a b x y
    refine ⟨i, x, by omega, z, ?_⟩
    rw [f i x y, (iP.2.2.2 _ hl.1.1 hl.1.2).2.2.2.2.2.2.2.2.1.1]
    exact h
theorem sy_eq (iP : IPers np 150 G G) (iF : IFact G G) (iO : IProm G G) (iT : IText G G) (iX : ITrade G G) {s set : Int} (a : 0 ≤ s) (b : s < 2) : syM G (stM G) s set ↔ syC G (stC G) s set := by
  obtain ⟨e, f⟩ := off_eq iX a b
  have hd : (gF G 1 0 2) ≤ 600 := iP.2.1.2.2
  unfold syM syC
  rw [iP.2.1.1]
  constructor
  · rintro ⟨i, x, y, z, h⟩
    have y' : i < (gA G 94 0 (s)) := by omega
    have hl := l_in iX a b x y'
    refine ⟨i, x, y', z, ?_⟩
    rw [f i x y'] at h
    exact (st_eq iP iF iO iT hl.1 hd).mp h
  · rintro ⟨i, x, y, z, h⟩
    have hl := l_in iX a b x y
    refine ⟨i, x, by omega, z, ?_⟩
    rw [f i x y]
    exact (st_eq iP iF iO iT hl.1 hd).mpr h
theorem wf_eq (iP : IPers np 150 G G) (iF : IFact G G) (iO : IProm G G) (iT : IText G G) (iX : ITrade G G) {s k set : Int} (a : 0 ≤ s) (b : s < 2) (hk : 0 ≤ k ∧ k ≤ 1) : wfM G (wtM G) s k set = wfC G (wtC G) s k set := by
  obtain ⟨e, f⟩ := off_eq iX a b
  have hd : (gF G 1 0 2) ≤ 600 := iP.2.1.2.2
  unfold wfM wfC
  rw [iP.2.1.1, e]
  refine sm_congr (iX.1 s a b).1.2.1 fun i x y _ => ?_
  have hl := l_in iX a b x y
  show wtM G (gA G 242 0 (7 * s + i)) k _ _ = _
  rw [f i x y]
  exact wt_eq iP iF iO iT hk hl.1 hd
theorem go_L (iX : ITrade G G) {set0 set1 s se i : Int} (hs : (s = 0 ∧ se = set0) ∨ (s = 1 ∧ se = set1)) (x : 0 ≤ i) (y : i < (gA G 94 0 (s))) : gonM G set0 set1 (gA G 93 (s) (i)) ↔ bt se i := by
  obtain ⟨e0, f0⟩ := off_eq iX (s := 0) (by decide) (by decide)
  obtain ⟨e1, f1⟩ := off_eq iX (s := 1) (by decide) (by decide)
  unfold gonM
  constructor
  · rintro (⟨j, a, b, c, d⟩ | ⟨j, a, b, c, d⟩)
    · have b' : j < (gA G 94 0 (0)) := by omega
      have d1 : (gA G 242 0 (7 * 0 + j)) = (gA G 93 (s) (i)) := by rw [show (7 : Int) * 0 + j = j by omega]; exact d
      rw [f0 j a b'] at d1
      have q1 := (l_in iX (s := 0) (by decide) (by decide) a b').2
      rcases hs with ⟨z, w⟩ | ⟨z, w⟩
      · rw [w]
        rw [z] at d1 y
        rw [← l_one iX (by decide) (by decide) a b' x y d1]
        exact c
      · rw [z] at d1 y
        have q2 := (l_in iX (s := 1) (by decide) (by decide) x y).2
        rw [d1] at q1
        omega
    · have b' : j < (gA G 94 0 (1)) := by omega
      have d1 : (gA G 242 0 (7 * 1 + j)) = (gA G 93 (s) (i)) := d
      rw [f1 j a b'] at d1
      have q1 := (l_in iX (s := 1) (by decide) (by decide) a b').2
      rcases hs with ⟨z, w⟩ | ⟨z, w⟩
      · rw [z] at d1 y
        have q2 := (l_in iX (s := 0) (by decide) (by decide) x y).2
        rw [d1] at q1
        omega
      · rw [w]
        rw [z] at d1 y
        rw [← l_one iX (by decide) (by decide) a b' x y d1]
        exact c
  · intro h
    rcases hs with ⟨z, w⟩ | ⟨z, w⟩
    · rw [w] at h
      rw [z] at y ⊢
      have q := f0 i x y
      rw [show (7 : Int) * 0 + i = i by omega] at q
      exact Or.inl ⟨i, x, by omega, h, q⟩
    · rw [w] at h
      rw [z] at y ⊢
      exact Or.inr ⟨i, x, by omega, h, f1 i x y⟩
theorem pc_one (iP : IPers np 150 G G) (iX : ITrade G G) {set0 set1 s se : Int} (hs : (s = 0 ∧ se = set0) ∨ (s = 1 ∧ se = set1)) : (∃ i, 0 ≤ i ∧ i < (gA G 243 0 (s)) ∧ pcQ G (gonM G set0 set1) (gA G 242 0 (7 * s + i))) ↔ pcC G s se := by
  have a : 0 ≤ s := by omega
  have b : s < 2 := by omega
  obtain ⟨e, f⟩ := off_eq iX a b
  unfold pcC
  constructor
  · rintro ⟨i, x, y, k1, k2, k3, k4⟩
    have y' : i < (gA G 94 0 (s)) := by omega
    have hl := l_in iX a b x y'
    rw [f i x y'] at k1 k2 k3 k4
    have pi := iP.2.2.2 _ hl.1.1 hl.1.2
    rw [pi.2.2.2.2.1.1] at k2 k3 k4
    have hw := pi.2.2.2.2.1.2
    have hw2 : 0 ≤ (gF G 3 ((gA G 93 (s) (i))) 4) ∧ (gF G 3 ((gA G 93 (s) (i))) 4) < (gF G 1 0 1) ∧ (gF G 3 ((gF G 3 ((gA G 93 (s) (i))) 4)) 2) = s := by
      rcases hw with h | h
      · omega
      · exact ⟨h.2.1, by omega, by rw [h.2.2.2]; exact hl.2⟩
    have pw := iP.2.2.2 _ hw2.1 hw2.2.1
    obtain ⟨j, j0, j1, j2⟩ := k3
    rw [pw.2.2.1.1, hw2.2.2] at j1 j2
    have j1' : j < (gA G 94 0 (s)) := by omega
    rw [f j j0 j1'] at j2
    refine ⟨i, x, y', k2, j, j0, j1', j2, fun z => k4 ?_⟩
    rw [← j2, go_L iX hs x y', go_L iX hs j0 j1']
    exact z
  · rintro ⟨i, x, y, k2, j, j0, j1, j2, k4⟩
    have hl := l_in iX a b x y
    have hj := l_in iX a b j0 j1
    have pi := iP.2.2.2 _ hl.1.1 hl.1.2
    have pj := iP.2.2.2 _ hj.1.1 hj.1.2
    refine ⟨i, x, by omega, ?_⟩
    rw [f i x y]
    refine ⟨?_, ?_, ?_, ?_⟩
    · rw [pi.2.1.1]
      rcases pi.2.2.2.2.1.2 with h | h
      · omega
      · exact h.1
    · rw [pi.2.2.2.2.1.1]; exact k2
    · rw [pi.2.2.2.2.1.1, ← j2]
      refine ⟨j, j0, ?_, ?_⟩
      · rw [pj.2.2.1.1, hj.2]; omega
      · rw [pj.2.2.1.1, hj.2]; exact f j j0 j1
    · rw [pi.2.2.2.2.1.1, ← j2, go_L iX hs x y, go_L iX hs j0 j1]
      exact k4
theorem pc_eq (iP : IPers np 150 G G) (iX : ITrade G G) {set0 set1 : Int} : pcM G (gonM G set0 set1) ↔ (pcC G 0 set0 ∨ pcC G 1 set1) := by
  rw [← pc_one iP iX (Or.inl ⟨rfl, rfl⟩) (set1 := set1), ← pc_one iP iX (Or.inr ⟨rfl, rfl⟩) (set0 := set0)]
  unfold pcM
  constructor
  · rintro ⟨s, i, a, b, c⟩
    rcases (show s = 0 ∨ s = 1 by omega) with z | z
    · rw [z] at c; exact Or.inl ⟨i, c⟩
    · rw [z] at c; exact Or.inr ⟨i, c⟩
  · rintro (⟨i, c⟩ | ⟨i, c⟩)
    · exact ⟨0, i, by decide, by decide, c⟩
    · exact ⟨1, i, by decide, by decide, c⟩
/-- those of a camp that do not go, and those of its list that do -/
theorem out_eq (iP : IPers np 150 G G) (iX : ITrade G G) (iJ : ISide G G) {set0 set1 s se c : Int} (hs : (s = 0 ∧ se = set0) ∨ (s = 1 ∧ se = set1)) (hc : (gA G 41 0 (c)) = s) {Q QM : Int → Prop} (hQ : ∀ p, 0 ≤ p → p < (gF G 1 0 1) → (QM p ↔ Q p)) :
    cnt (fun p => ((gA G 206 0 (p)) = 0 ∧ (gA G 207 0 (p)) = c) ∧ QM p ∧ ¬ gonM G set0 set1 p) (gF G 12 0 17) + cnt (fun i => bt se i ∧ (((gF G 3 ((gA G 93 (s) (i))) 8) = 0 ∧ (gF G 3 ((gA G 93 (s) (i))) 10) = c) ∧ Q (gA G 93 (s) (i)))) (gA G 94 0 (s)) = cnt (fun p => ((gF G 3 (p) 8) = 0 ∧ (gF G 3 (p) 10) = c) ∧ Q p) (gF G 1 0 1) := by
  have a : 0 ≤ s := by omega
  have b : s < 2 := by omega
  have h := cnt_list (R := fun p => ((gF G 3 (p) 8) = 0 ∧ (gF G 3 (p) 10) = c) ∧ Q p) (L := fun i => (gA G 93 (s) (i))) (set := se) (N := (gF G 1 0 1)) (gA G 94 0 (s)) (iX.1 s a b).1.2.1 (fun i x y => (l_in iX a b x y).1) (fun i j x y z => (iX.1 s a b).2.2.1 i j x y z)
  rw [← h, iP.1.2.2]
  congr 1
  refine cnt_congr fun p x y => ?_
  have pi := iP.2.2.2 p x y
  rw [pi.2.2.2.2.2.2.2.2.1.1, hQ p x y]
  have key : (gF G 3 (p) 8) = 0 → (gF G 3 (p) 10) = c → (gonM G set0 set1 p ↔ ∃ i, 0 ≤ i ∧ i < (gA G 94 0 (s)) ∧ bt se i ∧ (gA G 93 (s) (i)) = p) := by
    intro h1 h2
    have hsd : (gF G 3 (p) 2) = s := by
      have h3 := (iJ p x y).1 h1
      rw [h2, hc] at h3
      exact h3.symm
    constructor
    · intro g
      obtain ⟨e0, f0⟩ := off_eq iX (s := 0) (by decide) (by decide)
      obtain ⟨e1, f1⟩ := off_eq iX (s := 1) (by decide) (by decide)
      rcases g with ⟨j, j0, j1, j2, j3⟩ | ⟨j, j0, j1, j2, j3⟩
      · have j1' : j < (gA G 94 0 (0)) := by omega
        have q := f0 j j0 j1'
        rw [show (7 : Int) * 0 + j = j by omega, j3] at q
        have q2 := (l_in iX (s := 0) (by decide) (by decide) j0 j1').2
        rw [← q] at q2
        rcases hs with ⟨z, w⟩ | ⟨z, w⟩
        · rw [z, w]; exact ⟨j, j0, j1', j2, q.symm⟩
        · omega
      · have j1' : j < (gA G 94 0 (1)) := by omega
        have q := f1 j j0 j1'
        rw [show (7 : Int) * 1 + j = 7 + j by omega, j3] at q
        have q2 := (l_in iX (s := 1) (by decide) (by decide) j0 j1').2
        rw [← q] at q2
        rcases hs with ⟨z, w⟩ | ⟨z, w⟩
        · omega
        · rw [z, w]; exact ⟨j, j0, j1', j2, q.symm⟩
    · rintro ⟨i, i0, i1, i2, i3⟩
      rw [← i3]
      exact (go_L iX hs i0 i1).mpr i2
  constructor
  · rintro ⟨⟨h1, h2⟩, h3, h4⟩
    have h2' : (gF G 3 (p) 10) = c := by rw [← (pi.2.2.2.2.2.2.2.2.2.2.1 h1).1]; exact h2
    exact ⟨⟨⟨h1, h2'⟩, h3⟩, fun z => h4 ((key h1 h2').mpr z)⟩
  · rintro ⟨⟨⟨h1, h2⟩, h3⟩, h4⟩
    exact ⟨⟨h1, by rw [(pi.2.2.2.2.2.2.2.2.2.2.1 h1).1]; exact h2⟩, h3, fun z => h4 ((key h1 h2).mp z)⟩
theorem had_eq (iP : IPers np 150 G G) (c : Int) : hadM G c = ciC G c 1 := by
  unfold hadM ciC
  rw [iP.1.2.2]
  refine cnt_congr fun p x y => ?_
  have pi := iP.2.2.2 p x y
  rw [pi.2.2.2.2.2.2.2.2.1.1, pi.2.1.1]
  constructor
  · rintro ⟨⟨h1, h2⟩, h3⟩
    exact ⟨⟨h1, by rw [← (pi.2.2.2.2.2.2.2.2.2.2.1 h1).1]; exact h2⟩, Or.inr h3⟩
  · rintro ⟨⟨h1, h2⟩, h3⟩
    exact ⟨⟨h1, by rw [(pi.2.2.2.2.2.2.2.2.2.2.1 h1).1]; exact h2⟩, h3.resolve_left (by decide)⟩
theorem sick_eq (iP : IPers np 150 G G) (iX : ITrade G G) (iJ : ISide G G) {set0 set1 s se c : Int} (hs : (s = 0 ∧ se = set0) ∨ (s = 1 ∧ se = set1)) (hc : (gA G 41 0 (c)) = s) : sickM G (gonM G set0 set1) c = cgC G c - cnt (fun i => (bt se i ∧ ((gF G 3 ((gA G 93 (s) (i))) 8) = 0 ∧ (gF G 3 ((gA G 93 (s) (i))) 10) = c)) ∧ 0 < (gF G 3 ((gA G 93 (s) (i))) 6)) (gA G 94 0 (s)) := by
  have h := out_eq iP iX iJ hs hc (Q := fun p => 0 < (gF G 3 (p) 6)) (QM := fun p => 0 < (gA G 210 0 (p))) (fun p x y => by rw [(iP.2.2.2 p x y).2.2.2.2.2.2.1.1])
  have h2 : cnt (fun i => bt se i ∧ (((gF G 3 ((gA G 93 (s) (i))) 8) = 0 ∧ (gF G 3 ((gA G 93 (s) (i))) 10) = c) ∧ 0 < (gF G 3 ((gA G 93 (s) (i))) 6))) (gA G 94 0 (s)) = cnt (fun i => (bt se i ∧ ((gF G 3 ((gA G 93 (s) (i))) 8) = 0 ∧ (gF G 3 ((gA G 93 (s) (i))) 10) = c)) ∧ 0 < (gF G 3 ((gA G 93 (s) (i))) 6)) (gA G 94 0 (s)) := cnt_congr fun i _ _ => ⟨fun z => ⟨⟨z.1, z.2.1⟩, z.2.2⟩, fun z => ⟨z.1.1, z.1.2, z.2⟩⟩
  have h3 : cgC G c = cnt (fun p => ((gF G 3 (p) 8) = 0 ∧ (gF G 3 (p) 10) = c) ∧ 0 < (gF G 3 (p) 6)) (gF G 1 0 1) := rfl
  have h4 : sickM G (gonM G set0 set1) c = cnt (fun p => ((gA G 206 0 (p)) = 0 ∧ (gA G 207 0 (p)) = c) ∧ 0 < (gA G 210 0 (p)) ∧ ¬ gonM G set0 set1 p) (gF G 12 0 17) := rfl
  rw [h3, h4, ← h, h2]
  omega
theorem left_eq (iP : IPers np 150 G G) (iX : ITrade G G) (iJ : ISide G G) {set0 set1 s se c : Int} (hs : (s = 0 ∧ se = set0) ∨ (s = 1 ∧ se = set1)) (hc : (gA G 41 0 (c)) = s) : leftM G (gonM G set0 set1) c = ciC G c 1 - cnt (fun i => (bt se i ∧ ((gF G 3 ((gA G 93 (s) (i))) 8) = 0 ∧ (gF G 3 ((gA G 93 (s) (i))) 10) = c)) ∧ (gF G 3 ((gA G 93 (s) (i))) 1) = 3) (gA G 94 0 (s)) := by
  have h := out_eq iP iX iJ hs hc (Q := fun p => (gF G 3 (p) 1) = 3) (QM := fun p => (gA G 204 0 (p)) = 3) (fun p x y => by rw [(iP.2.2.2 p x y).2.1.1])
  have h2 : cnt (fun i => bt se i ∧ (((gF G 3 ((gA G 93 (s) (i))) 8) = 0 ∧ (gF G 3 ((gA G 93 (s) (i))) 10) = c) ∧ (gF G 3 ((gA G 93 (s) (i))) 1) = 3)) (gA G 94 0 (s)) = cnt (fun i => (bt se i ∧ ((gF G 3 ((gA G 93 (s) (i))) 8) = 0 ∧ (gF G 3 ((gA G 93 (s) (i))) 10) = c)) ∧ (gF G 3 ((gA G 93 (s) (i))) 1) = 3) (gA G 94 0 (s)) := cnt_congr fun i _ _ => ⟨fun z => ⟨⟨z.1, z.2.1⟩, z.2.2⟩, fun z => ⟨z.1.1, z.1.2, z.2⟩⟩
  have h3 : ciC G c 1 = cnt (fun p => ((gF G 3 (p) 8) = 0 ∧ (gF G 3 (p) 10) = c) ∧ (gF G 3 (p) 1) = 3) (gF G 1 0 1) := cnt_congr fun i _ _ => ⟨fun z => ⟨z.1, z.2.resolve_left (by decide)⟩, fun z => ⟨z.1, Or.inr z.2⟩⟩
  have h4 : leftM G (gonM G set0 set1) c = cnt (fun p => ((gA G 206 0 (p)) = 0 ∧ (gA G 207 0 (p)) = c) ∧ (gA G 204 0 (p)) = 3 ∧ ¬ gonM G set0 set1 p) (gF G 12 0 17) := rfl
  rw [h3, h4, ← h, h2]
  omega
theorem ld_off (iP : IPers np 150 G G) (iX : ITrade G G) (iJ : ISide G G) {s se c : Int} (a : 0 ≤ s) (b : s < 2) (hc : c < (gF G 2 0 2) → (gA G 41 0 (c)) ≠ s) : ¬ (ciC G c 1 - cnt (fun i => (bt se i ∧ ((gF G 3 ((gA G 93 (s) (i))) 8) = 0 ∧ (gF G 3 ((gA G 93 (s) (i))) 10) = c)) ∧ (gF G 3 ((gA G 93 (s) (i))) 1) = 3) (gA G 94 0 (s)) < min (pDiv (cgC G c - cnt (fun i => (bt se i ∧ ((gF G 3 ((gA G 93 (s) (i))) 8) = 0 ∧ (gF G 3 ((gA G 93 (s) (i))) 10) = c)) ∧ 0 < (gF G 3 ((gA G 93 (s) (i))) 6)) (gA G 94 0 (s)) + (gF G 10 0 5) - 1) (gF G 10 0 5)) (ciC G c 1)) := by
  have h : cnt (fun i => (bt se i ∧ ((gF G 3 ((gA G 93 (s) (i))) 8) = 0 ∧ (gF G 3 ((gA G 93 (s) (i))) 10) = c)) ∧ (gF G 3 ((gA G 93 (s) (i))) 1) = 3) (gA G 94 0 (s)) = 0 := by
    refine cnt_none (iX.1 s a b).1.2.1 fun i x y h => ?_
    have hl := l_in iX a b x y
    have hj := (iJ _ hl.1.1 hl.1.2).1 h.1.2.1
    have hp := ((iP.2.2.2 _ hl.1.1 hl.1.2).2.2.2.2.2.2.2.2.2.2.1 h.1.2.1).2.2
    rw [h.1.2.2] at hj hp
    exact hc hp (hj.trans hl.2)
  rw [h]
  omega
theorem ld_eq (iL : ILand G G) (iP : IPers np 150 G G) (iX : ITrade G G) (iJ : ISide G G) {set0 set1 : Int} : ldM G (gonM G set0 set1) ↔ (ldC G 0 set0 ∨ ldC G 1 set1) := by
  have er : (gF G 12 0 62) = (gF G 10 0 5) := iX.2.1
  have ec : (gF G 12 0 3) = (gF G 2 0 2) := iL.1.2.2
  have hc16 : (gF G 2 0 2) ≤ 16 := iL.1.2.1
  have one : ∀ {s se c : Int}, ((s = 0 ∧ se = set0) ∨ (s = 1 ∧ se = set1)) → (gA G 41 0 (c)) = s → (leftM G (gonM G set0 set1) c < min (pDiv (sickM G (gonM G set0 set1) c + (gF G 12 0 62) - 1) (gF G 12 0 62)) (hadM G c) ↔ (ciC G c 1 - cnt (fun i => (bt se i ∧ ((gF G 3 ((gA G 93 (s) (i))) 8) = 0 ∧ (gF G 3 ((gA G 93 (s) (i))) 10) = c)) ∧ (gF G 3 ((gA G 93 (s) (i))) 1) = 3) (gA G 94 0 (s)) < min (pDiv (cgC G c - cnt (fun i => (bt se i ∧ ((gF G 3 ((gA G 93 (s) (i))) 8) = 0 ∧ (gF G 3 ((gA G 93 (s) (i))) 10) = c)) ∧ 0 < (gF G 3 ((gA G 93 (s) (i))) 6)) (gA G 94 0 (s)) + (gF G 10 0 5) - 1) (gF G 10 0 5)) (ciC G c 1))) := by
    intro s se c hs hc
    rw [left_eq iP iX iJ hs hc, sick_eq iP iX iJ hs hc, had_eq iP, er]
  unfold ldM
  constructor
  · rintro ⟨c, x, y, h⟩
    have hsd := (iL.2.1 c x (by omega)).2.1
    rcases (show (gA G 41 0 (c)) = 0 ∨ (gA G 41 0 (c)) = 1 by omega) with z | z
    · exact Or.inl ⟨c, x, by omega, (one (Or.inl ⟨rfl, rfl⟩) z).mp h⟩
    · exact Or.inr ⟨c, x, by omega, (one (Or.inr ⟨rfl, rfl⟩) z).mp h⟩
  · rintro (⟨c, x, y, h⟩ | ⟨c, x, y, h⟩)
    · by_cases q : c < (gF G 2 0 2) ∧ (gA G 41 0 (c)) = 0
      · exact ⟨c, x, by omega, (one (Or.inl ⟨rfl, rfl⟩) q.2).mpr h⟩
      · exact absurd h (ld_off iP iX iJ (by decide) (by decide) (fun z w => q ⟨z, w⟩))
    · by_cases q : c < (gF G 2 0 2) ∧ (gA G 41 0 (c)) = 1
      · exact ⟨c, x, by omega, (one (Or.inr ⟨rfl, rfl⟩) q.2).mpr h⟩
      · exact absurd h (ld_off iP iX iJ (by decide) (by decide) (fun z w => q ⟨z, w⟩))
theorem vd_eq (iL : ILand G G) (iP : IPers np 150 G G) (iF : IFact G G) (iO : IProm G G) (iT : IText G G) (iX : ITrade G G) (iJ : ISide G G) (set0 set1 : Int) : vdM G (stM G) (wtM G) set0 set1 = vdC G (stC G) (wtC G) set0 set1 := by
  have z0 : (0 : Int) ≤ 0 := by decide
  have z1 : (0 : Int) < 2 := by decide
  have o0 : (0 : Int) ≤ 1 := by decide
  have o1 : (1 : Int) < 2 := by decide
  unfold vdM vdC
  rw [b2i_iff (or_congr (aw_eq iP iX z0 z1) (aw_eq iP iX o0 o1)), b2i_iff (or_congr (sy_eq iP iF iO iT iX z0 z1) (sy_eq iP iF iO iT iX o0 o1)), wf_eq iP iF iO iT iX z0 z1 (by decide), wf_eq iP iF iO iT iX o0 o1 (by decide), wf_eq iP iF iO iT iX o0 o1 (by decide), wf_eq iP iF iO iT iX z0 z1 (by decide), b2i_iff (pc_eq iP iX), b2i_iff (ld_eq iL iP iX iJ)]
end TR
