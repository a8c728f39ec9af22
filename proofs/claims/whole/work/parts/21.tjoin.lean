theorem gA_sA_fn (G : PH) (c : Nat) (r i v : Int) : gA (sA G c r i v) c r = upA (gA G c r) i v := by
  funext j
  rw [gA_sA]
  unfold upA
  by_cases e : j = i
  · rw [if_pos ⟨rfl, rfl, e⟩, if_pos e]
  · rw [if_neg (fun q => e q.2.2), if_neg e]
theorem gA_uA_fn (G : PH) (c : Nat) (r : Int) (f : Int → Int) : gA (uA G c r f) c r = f := by
  funext j
  rw [gA_uA, if_pos ⟨rfl, rfl⟩]
theorem least_ex {q : Int → Prop} {n : Int} : (∃ l, 0 ≤ l ∧ l < n ∧ q l) → ∃ l, 0 ≤ l ∧ l < n ∧ q l ∧ ∀ k, 0 ≤ k → k < l → ¬ q k := by
  rintro ⟨l, h0, h1, h2⟩
  refine nat_ind (p := fun m => ∀ l, 0 ≤ l → l ≤ m → l < n → q l → ∃ l, 0 ≤ l ∧ l < n ∧ q l ∧ ∀ k, 0 ≤ k → k < l → ¬ q k) (fun l a b c d => ⟨l, a, c, d, fun k x y => by omega⟩) (fun m hm ih l a b c d => ?_) l h0 l h0 (Int.le_refl _) h1 h2
  by_cases e : ∃ k, 0 ≤ k ∧ k < l ∧ q k
  · obtain ⟨k, x, y, z⟩ := e
    exact ih k x (by omega) (by omega) z
  · exact ⟨l, a, c, d, fun k x y z => e ⟨k, x, y, z⟩⟩
theorem comes_letter {n told c day : Int} {sent : Int → Int} (hn : 0 ≤ n) (h : comesOk n sent told c) (ht : told ≤ day) (hs : ∀ l, 0 ≤ l → l < n → sent l ≤ 600) : comesOk (n + 1) (upA sent n day) told (if c = 1000000000 then day + 7 else c) := by
  rcases h with ⟨l, a, b, e, f, g⟩ | ⟨a, e⟩
  · have := hs l a b
    rw [if_neg (by omega)]
    exact Or.inl ⟨l, a, by omega, by rw [upA_ne (by omega)]; exact e, fun k x y => by rw [upA_ne (by omega)]; exact f k x y, by rw [upA_ne (by omega)]; exact g⟩
  · rw [if_pos e]
    exact Or.inl ⟨n, hn, by omega, by rw [upA_same]; exact ht, fun k x y => by rw [upA_ne (by omega)]; exact a k x y, by rw [upA_same]⟩
theorem comes_new {n lat day c : Int} {sent : Int → Int} (hn : 0 ≤ n) (h0 : 0 ≤ day) (hl : (n = 0 ∧ lat = -1) ∨ (0 < n ∧ lat = sent (n - 1))) (hs : ∀ l, 0 ≤ l → l < n → 0 ≤ sent l ∧ sent l ≤ day) (hm : ∀ k l, 0 ≤ k → k ≤ l → l < n → sent k ≤ sent l) (hc : (lat = day ∧ c = day + 7) ∨ (lat ≠ day ∧ c = 1000000000)) : comesOk n sent day c := by
  rcases hl with ⟨e, f⟩ | ⟨e, f⟩
  · exact Or.inr ⟨fun k x y => by omega, by omega⟩
  · have h1 := hs (n - 1) (by omega) (by omega)
    rcases hc with ⟨g, c1⟩ | ⟨g, c1⟩
    · obtain ⟨l, a, b, d, w⟩ := least_ex (q := fun l => day ≤ sent l) (n := n) ⟨n - 1, by omega, by omega, by omega⟩
      have h2 := hs l a b
      exact Or.inl ⟨l, a, b, d, fun k x y => by have := w k x y; omega, by omega⟩
    · exact Or.inr ⟨fun k x y => by have := hm k (n - 1) x (by omega) (by omega); omega, c1⟩
theorem known_eq {np : Nat} {q : Int} {X Y : PH} (iP : IPers np q X Y) (iF : IFact X Y) {z p s k : Int} (hz : 0 ≤ z ∧ z ≤ 1) (hp : 0 ≤ p ∧ p < (gF X 1 0 1)) (hs : 0 ≤ s ∧ s ≤ 2) (hk : k ≤ 600) : lastOf (fun i => ((gA Y 219 0 (i)) = p ∧ (gA Y 220 0 (i)) = s ∧ ((((gA Y 205 0 ((gA Y 219 0 (i)))) = z ↔ (gA Y 220 0 (i)) ≠ 2) ∧ (gA Y 222 0 (i)) ≤ k) ∨ (¬ ((gA Y 205 0 ((gA Y 219 0 (i)))) = z ↔ (gA Y 220 0 (i)) ≠ 2) ∧ cmF (gF Y 12 0 29) (gA Y 223 0) (gA Y 222 0 (i)) 100000 ≤ k)))) (gA Y 221 0) 0 (gF Y 12 0 27) = lastOf (fun i => ((gA X 83 0 (i)) = p ∧ (gA X 84 0 (i)) = s ∧ ((((s = 2 ∧ z ≠ (gF X 3 (p) 2)) ∨ (s ≠ 2 ∧ z = (gF X 3 (p) 2))) ∧ (gA X 86 0 (i)) ≤ k) ∨ (¬ ((s = 2 ∧ z ≠ (gF X 3 (p) 2)) ∨ (s ≠ 2 ∧ z = (gF X 3 (p) 2))) ∧ (gA X 87 0 (i)) ≤ k)))) (gA X 85 0) 0 (gF X 9 0 0) := by
  rw [iF.1.1]
  refine last_congr iF.1.2.1 (fun i a b => ?_) (fun i a b _ => ?_)
  · obtain ⟨⟨a1, a2, a3⟩, ⟨b1, b2, b3⟩, ⟨c1, c2, c3⟩, ⟨d1, d2, d3⟩, d4⟩ := iF.2.2.2.2.2 i a b
    have hc := cm_le hk d4
    rw [← iF.2.1.1] at hc
    rw [a1, b1, d1]
    by_cases e : (gA X 83 0 (i)) = p ∧ (gA X 84 0 (i)) = s
    · rw [e.1, e.2]
      have hpf := pf iP p
      omega
    · exact ⟨fun w => absurd ⟨w.1, w.2.1⟩ e, fun w => absurd ⟨w.1, w.2.1⟩ e⟩
  · exact (iF.2.2.2.2.2 i a b).2.2.1.1
theorem done_eq {np : Nat} {q : Int} {X Y : PH} (iP : IPers np q X Y) (iO : IProm X Y) {j : Int} (h0 : 0 ≤ j) (h1 : j < (gF X 9 0 2)) : cnt (fun i1 => ((gA Y 206 0 (i1)) = 5 ∧ (gA Y 205 0 (i1)) = (gA Y 224 0 (j))) ∧ (gA Y 226 0 (j)) ≤ (gA Y 213 0 (i1)) ∧ (gA Y 213 0 (i1)) ≤ (gA Y 227 0 (j))) (gF Y 12 0 17) = cnt (fun i1 => ((gF X 3 (i1) 2) = (gA X 88 0 (j)) ∧ (gF X 3 (i1) 8) = 5) ∧ (gA X 90 0 (j)) ≤ (gF X 3 (i1) 9) ∧ (gF X 3 (i1) 9) ≤ (gA X 91 0 (j))) (gF X 1 0 1) := by
  obtain ⟨⟨a1, a2, a3⟩, a4, a5, a6⟩ := iO.2 j h0 h1
  rw [iP.1.2.2, a1, a5, a6]
  refine cnt_congr fun i a b => ?_
  have hpf := pf iP i
  omega
theorem broken_eq {np : Nat} {q : Int} {X Y : PH} (iP : IPers np q X Y) (iO : IProm X Y) {z d0 : Int} : cnt (fun i0 => (gA Y 224 0 (i0)) = z ∧ ((gA Y 227 0 (i0)) < d0 ∧ cnt (fun i1 => ((gA Y 206 0 (i1)) = 5 ∧ (gA Y 205 0 (i1)) = (gA Y 224 0 (i0))) ∧ (gA Y 226 0 (i0)) ≤ (gA Y 213 0 (i1)) ∧ (gA Y 213 0 (i1)) ≤ (gA Y 227 0 (i0))) (gF Y 12 0 17) < (gA Y 225 0 (i0)))) (gF Y 12 0 34) = cnt (fun i0 => (gA X 88 0 (i0)) = z ∧ ((gA X 91 0 (i0)) < d0 ∧ cnt (fun i1 => ((gF X 3 (i1) 2) = (gA X 88 0 (i0)) ∧ (gF X 3 (i1) 8) = 5) ∧ (gA X 90 0 (i0)) ≤ (gF X 3 (i1) 9) ∧ (gF X 3 (i1) 9) ≤ (gA X 91 0 (i0))) (gF X 1 0 1) < (gA X 89 0 (i0)))) (gF X 9 0 2) := by
  rw [iO.1.1]
  refine cnt_congr fun i a b => ?_
  have h := done_eq iP iO a b
  obtain ⟨⟨a1, a2, a3⟩, a4, a5, a6⟩ := iO.2 i a b
  rw [a1] at h ⊢
  rw [h, a6, a4]




set_option maxRecDepth 10000 in
theorem call_fact {l : Launch} {w : Wo} {d : Nat} {G : PH} (hI : Inv w.1.2 G G) {p : Int} {s : Int} {v : Int} : CallOk l w d M_X11_fact M_X12_fact [some (vR 11 (0)), some (vI (p)), some (vI (s)), some (vI (v))] [some (vR 12 (0)), some (vI (p)), some (vI (s)), some (vI (v))] G := by
  obtain ⟨iL, iP, iS, iF, iO, iE, iT, iR, iB, iX, iH, iG, iQ, iN, iA, iJ⟩ := hI
  have hsz : 0 ≤ (gF G 1 0 1) ∧ (gF G 1 0 1) ≤ 150 := by have := iP.1; omega
  have ep : (gF G 12 0 17) = (gF G 1 0 1) := iP.1.2.2
  have mhsz : 0 ≤ (gF G 12 0 17) ∧ (gF G 12 0 17) ≤ 150 := by omega
  have hp : ∀ i, 0 ≤ i → i < (gF G 1 0 1) → gD G 30 0 i = some (3, i) := fun i a b => (iP.2.2.2 i a b).1.1
  have hcw := cnt_le (owP G) hsz.1
  have es : (gF G 12 0 22) = (gF G 1 0 3) := iS.1.1
  have hst : 0 ≤ (gF G 1 0 3) ∧ (gF G 1 0 3) ≤ 400 := by have := iS.1; omega
  have mhst : 0 ≤ (gF G 12 0 22) ∧ (gF G 12 0 22) ≤ 400 := by omega
  have hday : 0 ≤ (gF G 1 0 2) ∧ (gF G 1 0 2) ≤ 600 := iP.2.1.2
  have ed : (gF G 12 0 0) = (gF G 1 0 2) := iP.2.1.1
  have hpf := pf iP p
  have hf : 0 ≤ (gF G 9 0 0) ∧ (gF G 9 0 0) ≤ 300 := iF.1.2
  have ef : (gF G 12 0 27) = (gF G 9 0 0) := iF.1.1
  have mhf : 0 ≤ (gF G 12 0 27) ∧ (gF G 12 0 27) ≤ 300 := by omega
  have hlt : 0 ≤ (gF G 9 0 1) ∧ (gF G 9 0 1) ≤ 60 := iF.2.1.2
  have el : (gF G 12 0 29) = (gF G 9 0 1) := iF.2.1.1
  have mhlt : 0 ≤ (gF G 12 0 29) ∧ (gF G 12 0 29) ≤ 60 := by omega
  have mhofs : ∀ i, 0 ≤ i → i < (gF G 12 0 27) → 0 ≤ (gA G 219 0 (i)) ∧ (gA G 219 0 (i)) < 150 := fun i a b => by have := (iF.2.2.2.2.2 i a (by omega)).1; omega
  have mhsent : ∀ l, 0 ≤ l → l < (gF G 12 0 29) → 0 ≤ (gA G 223 0 (l)) ∧ (gA G 223 0 (l)) ≤ 600 := fun l a b => by have := iF.2.2.2.1 l a (by omega); omega
  have hpr : 0 ≤ (gF G 9 0 2) ∧ (gF G 9 0 2) ≤ 40 := iO.1.2
  have epr : (gF G 12 0 34) = (gF G 9 0 2) := iO.1.1
  have mhpr : 0 ≤ (gF G 12 0 34) ∧ (gF G 12 0 34) ≤ 40 := by omega
  unfold CallOk CallPhi
  refine sp_X11_fact (d := d + 998) (by first | assumption | exact hp | omega) (by first | assumption | exact hsz | omega) (by first | assumption | exact hf | omega) (by first | assumption | exact hday | omega) ?_ ?_ ?_ ?_
  · intro c1
    refine sp_X12_fact (d := d + 999) (by first | assumption | exact mhsz | omega) (by first | assumption | exact mhf | omega) ?_ ?_ ?_ ?_
    · intro m1
      replace m1 : ¬ ((0 ≤ p ∧ p < (gF G 12 (0) 17)) ∧ (0 ≤ s ∧ s ≤ 2) ∧ 0 ≤ v ∧ v ≤ 1) := m1
      exact ⟨⟨rfl, _, rfl⟩, iL, iP, iS, iF, iO, iE, iT, iR, iB, iX, iH, iG, iQ, iN, iA, iJ⟩
    · intro m1 m2
      replace m1 : (((0 ≤ p ∧ p < (gF G 12 (0) 17)) ∧ (0 ≤ s ∧ s ≤ 2) ∧ 0 ≤ v ∧ v ≤ 1)) := m1
      replace m2 : (s = 0 ∧ (gA G 206 (0) (p)) ≠ 0) := m2
      exfalso; omega
    · intro m1 m2 m3
      replace m1 : (((0 ≤ p ∧ p < (gF G 12 (0) 17)) ∧ (0 ≤ s ∧ s ≤ 2) ∧ 0 ≤ v ∧ v ≤ 1)) := m1
      replace m2 : (¬ (s = 0 ∧ (gA G 206 (0) (p)) ≠ 0)) := m2
      replace m3 : (300 ≤ (gF G 12 (0) 27)) := m3
      exfalso; omega
    · intro m1 m2 m3 v2 m4
      replace m1 : (((0 ≤ p ∧ p < (gF G 12 (0) 17)) ∧ (0 ≤ s ∧ s ≤ 2) ∧ 0 ≤ v ∧ v ≤ 1)) := m1
      replace m2 : (¬ (s = 0 ∧ (gA G 206 (0) (p)) ≠ 0)) := m2
      replace m3 : ((gF G 12 (0) 27) < 300) := m3
      replace m4 : ((s = 0 ∧ v2 = (gA G 210 (0) (p))) ∨ (s ≠ 0 ∧ v2 = v)) := m4
      exfalso; omega
  · intro c1 c2
    refine sp_X12_fact (d := d + 999) (by first | assumption | exact mhsz | omega) (by first | assumption | exact mhf | omega) ?_ ?_ ?_ ?_
    · intro m1
      replace m1 : ¬ ((0 ≤ p ∧ p < (gF G 12 (0) 17)) ∧ (0 ≤ s ∧ s ≤ 2) ∧ 0 ≤ v ∧ v ≤ 1) := m1
      exfalso; omega
    · intro m1 m2
      replace m1 : (((0 ≤ p ∧ p < (gF G 12 (0) 17)) ∧ (0 ≤ s ∧ s ≤ 2) ∧ 0 ≤ v ∧ v ≤ 1)) := m1
      replace m2 : (s = 0 ∧ (gA G 206 (0) (p)) ≠ 0) := m2
      exact ⟨⟨rfl, _, rfl⟩, iL, iP, iS, iF, iO, iE, iT, iR, iB, iX, iH, iG, iQ, iN, iA, iJ⟩
    · intro m1 m2 m3
      replace m1 : (((0 ≤ p ∧ p < (gF G 12 (0) 17)) ∧ (0 ≤ s ∧ s ≤ 2) ∧ 0 ≤ v ∧ v ≤ 1)) := m1
      replace m2 : (¬ (s = 0 ∧ (gA G 206 (0) (p)) ≠ 0)) := m2
      replace m3 : (300 ≤ (gF G 12 (0) 27)) := m3
      exfalso; omega
    · intro m1 m2 m3 v2 m4
      replace m1 : (((0 ≤ p ∧ p < (gF G 12 (0) 17)) ∧ (0 ≤ s ∧ s ≤ 2) ∧ 0 ≤ v ∧ v ≤ 1)) := m1
      replace m2 : (¬ (s = 0 ∧ (gA G 206 (0) (p)) ≠ 0)) := m2
      replace m3 : ((gF G 12 (0) 27) < 300) := m3
      replace m4 : ((s = 0 ∧ v2 = (gA G 210 (0) (p))) ∨ (s ≠ 0 ∧ v2 = v)) := m4
      exfalso; omega
  · intro c1 c2 c3
    refine sp_X12_fact (d := d + 999) (by first | assumption | exact mhsz | omega) (by first | assumption | exact mhf | omega) ?_ ?_ ?_ ?_
    · intro m1
      replace m1 : ¬ ((0 ≤ p ∧ p < (gF G 12 (0) 17)) ∧ (0 ≤ s ∧ s ≤ 2) ∧ 0 ≤ v ∧ v ≤ 1) := m1
      exfalso; omega
    · intro m1 m2
      replace m1 : (((0 ≤ p ∧ p < (gF G 12 (0) 17)) ∧ (0 ≤ s ∧ s ≤ 2) ∧ 0 ≤ v ∧ v ≤ 1)) := m1
      replace m2 : (s = 0 ∧ (gA G 206 (0) (p)) ≠ 0) := m2
      exfalso; omega
    · intro m1 m2 m3
      replace m1 : (((0 ≤ p ∧ p < (gF G 12 (0) 17)) ∧ (0 ≤ s ∧ s ≤ 2) ∧ 0 ≤ v ∧ v ≤ 1)) := m1
      replace m2 : (¬ (s = 0 ∧ (gA G 206 (0) (p)) ≠ 0)) := m2
      replace m3 : (300 ≤ (gF G 12 (0) 27)) := m3
      exact ⟨⟨rfl, _, rfl⟩, iL, iP, iS, iF, iO, iE, iT, iR, iB, iX, iH, iG, iQ, iN, iA, iJ⟩
    · intro m1 m2 m3 v2 m4
      replace m1 : (((0 ≤ p ∧ p < (gF G 12 (0) 17)) ∧ (0 ≤ s ∧ s ≤ 2) ∧ 0 ≤ v ∧ v ≤ 1)) := m1
      replace m2 : (¬ (s = 0 ∧ (gA G 206 (0) (p)) ≠ 0)) := m2
      replace m3 : ((gF G 12 (0) 27) < 300) := m3
      replace m4 : ((s = 0 ∧ v2 = (gA G 210 (0) (p))) ∨ (s ≠ 0 ∧ v2 = v)) := m4
      exfalso; omega
  · intro c1 c2 c3 vv cc c4 c5
    refine sp_X12_fact (d := d + 999) (by first | assumption | exact mhsz | omega) (by first | assumption | exact mhf | omega) ?_ ?_ ?_ ?_
    · intro m1
      replace m1 : ¬ ((0 ≤ p ∧ p < (gF G 12 (0) 17)) ∧ (0 ≤ s ∧ s ≤ 2) ∧ 0 ≤ v ∧ v ≤ 1) := m1
      exfalso; omega
    · intro m1 m2
      replace m1 : (((0 ≤ p ∧ p < (gF G 12 (0) 17)) ∧ (0 ≤ s ∧ s ≤ 2) ∧ 0 ≤ v ∧ v ≤ 1)) := m1
      replace m2 : (s = 0 ∧ (gA G 206 (0) (p)) ≠ 0) := m2
      exfalso; omega
    · intro m1 m2 m3
      replace m1 : (((0 ≤ p ∧ p < (gF G 12 (0) 17)) ∧ (0 ≤ s ∧ s ≤ 2) ∧ 0 ≤ v ∧ v ≤ 1)) := m1
      replace m2 : (¬ (s = 0 ∧ (gA G 206 (0) (p)) ≠ 0)) := m2
      replace m3 : (300 ≤ (gF G 12 (0) 27)) := m3
      exfalso; omega
    · intro m1 m2 m3 v2 m4
      replace m1 : (((0 ≤ p ∧ p < (gF G 12 (0) 17)) ∧ (0 ≤ s ∧ s ≤ 2) ∧ 0 ≤ v ∧ v ≤ 1)) := m1
      replace m2 : (¬ (s = 0 ∧ (gA G 206 (0) (p)) ≠ 0)) := m2
      replace m3 : ((gF G 12 (0) 27) < 300) := m3
      replace m4 : ((s = 0 ∧ v2 = (gA G 210 (0) (p))) ∨ (s ≠ 0 ∧ v2 = v)) := m4
      show (some (vI ((gF G 12 (0) 27) + 1)) = some (vI ((gF G 9 0 0) + 1)) ∧ ∃ vz, some (vI ((gF G 9 0 0) + 1)) = some (vI vz)) ∧ Inv w.1.2 (sF (sA (sA (sA (sA (sF (sA (sA (sA (sA (sA G 83 (0) ((gF G 9 0 0)) (p)) 84 (0) ((gF G 9 0 0)) (s)) 85 (0) ((gF G 9 0 0)) (vv)) 86 (0) ((gF G 9 0 0)) ((gF G 1 0 2))) 87 (0) ((gF G 9 0 0)) (cc)) 9 (0) 0 ((gF G 9 0 0) + 1)) 219 (0) ((gF G 12 (0) 27)) (p)) 220 (0) ((gF G 12 (0) 27)) (s)) 221 (0) ((gF G 12 (0) 27)) (v2)) 222 (0) ((gF G 12 (0) 27)) ((gF G 12 (0) 0))) 12 (0) 27 ((gF G 12 (0) 27) + 1)) (sF (sA (sA (sA (sA (sF (sA (sA (sA (sA (sA G 83 (0) ((gF G 9 0 0)) (p)) 84 (0) ((gF G 9 0 0)) (s)) 85 (0) ((gF G 9 0 0)) (vv)) 86 (0) ((gF G 9 0 0)) ((gF G 1 0 2))) 87 (0) ((gF G 9 0 0)) (cc)) 9 (0) 0 ((gF G 9 0 0) + 1)) 219 (0) ((gF G 12 (0) 27)) (p)) 220 (0) ((gF G 12 (0) 27)) (s)) 221 (0) ((gF G 12 (0) 27)) (v2)) 222 (0) ((gF G 12 (0) 27)) ((gF G 12 (0) 0))) 12 (0) 27 ((gF G 12 (0) 27) + 1))
      have ev : v2 = vv := by omega
      subst ev
      refine ⟨⟨by rw [ef], _, rfl⟩, iL, iP, iS, ?_, iO, iE, iT, iR, iB, iX, iH, iG, iQ, iN, iA, iJ⟩
      refine ⟨by simp only [gF_sF, gF_sA, gF_uA, gF_sD, gA_sF, gA_sA, gA_uA, gA_sD, gD_sF, gD_sA, gD_uA, gD_sD, Nat.reduceEqDiff, reduceCtorEq, false_and, and_false, true_and, and_true, ite_true, ite_false, if_true, if_false, ↓reduceIte, and_self]; omega, iF.2.1, iF.2.2.1, iF.2.2.2.1, iF.2.2.2.2.1, ?_⟩
      simp only [gF_sF, gF_sA, gF_uA, gF_sD, gA_sF, gA_sA, gA_uA, gA_sD, gD_sF, gD_sA, gD_uA, gD_sD, Nat.reduceEqDiff, reduceCtorEq, false_and, and_false, true_and, and_true, ite_true, ite_false, if_true, if_false, ↓reduceIte, and_self]
      refine all_s (fun i a b => ?_) ?_
      · have e : i ≠ (gF G 9 0 0) := by omega
        simp only [gF_sF, gF_sA, gF_uA, gF_sD, gA_sF, gA_sA, gA_uA, gA_sD, gD_sF, gD_sA, gD_uA, gD_sD, Nat.reduceEqDiff, reduceCtorEq, false_and, and_false, true_and, and_true, ite_true, ite_false, if_true, if_false, ↓reduceIte, and_self, e, ef]
        exact iF.2.2.2.2.2 i a b
      · simp only [gF_sF, gF_sA, gF_uA, gF_sD, gA_sF, gA_sA, gA_uA, gA_sD, gD_sF, gD_sA, gD_uA, gD_sD, Nat.reduceEqDiff, reduceCtorEq, false_and, and_false, true_and, and_true, ite_true, ite_false, if_true, if_false, ↓reduceIte, and_self, ef]
        refine ⟨by omega, by omega, by omega, by omega, ?_⟩
        exact comes_new hlt.1 hday.1 iF.2.2.1 (fun l x y => iF.2.2.2.1 l x y) iF.2.2.2.2.1 c5
set_option maxRecDepth 10000 in
theorem call_letter {l : Launch} {w : Wo} {d : Nat} {G : PH} (hI : Inv w.1.2 G G)  : CallOk l w d M_X11_letter M_X12_letter [some (vR 11 (0))] [some (vR 12 (0))] G := by
  obtain ⟨iL, iP, iS, iF, iO, iE, iT, iR, iB, iX, iH, iG, iQ, iN, iA, iJ⟩ := hI
  have hsz : 0 ≤ (gF G 1 0 1) ∧ (gF G 1 0 1) ≤ 150 := by have := iP.1; omega
  have ep : (gF G 12 0 17) = (gF G 1 0 1) := iP.1.2.2
  have mhsz : 0 ≤ (gF G 12 0 17) ∧ (gF G 12 0 17) ≤ 150 := by omega
  have hp : ∀ i, 0 ≤ i → i < (gF G 1 0 1) → gD G 30 0 i = some (3, i) := fun i a b => (iP.2.2.2 i a b).1.1
  have hcw := cnt_le (owP G) hsz.1
  have es : (gF G 12 0 22) = (gF G 1 0 3) := iS.1.1
  have hst : 0 ≤ (gF G 1 0 3) ∧ (gF G 1 0 3) ≤ 400 := by have := iS.1; omega
  have mhst : 0 ≤ (gF G 12 0 22) ∧ (gF G 12 0 22) ≤ 400 := by omega
  have hday : 0 ≤ (gF G 1 0 2) ∧ (gF G 1 0 2) ≤ 600 := iP.2.1.2
  have ed : (gF G 12 0 0) = (gF G 1 0 2) := iP.2.1.1
  have hf : 0 ≤ (gF G 9 0 0) ∧ (gF G 9 0 0) ≤ 300 := iF.1.2
  have ef : (gF G 12 0 27) = (gF G 9 0 0) := iF.1.1
  have mhf : 0 ≤ (gF G 12 0 27) ∧ (gF G 12 0 27) ≤ 300 := by omega
  have hlt : 0 ≤ (gF G 9 0 1) ∧ (gF G 9 0 1) ≤ 60 := iF.2.1.2
  have el : (gF G 12 0 29) = (gF G 9 0 1) := iF.2.1.1
  have mhlt : 0 ≤ (gF G 12 0 29) ∧ (gF G 12 0 29) ≤ 60 := by omega
  have mhofs : ∀ i, 0 ≤ i → i < (gF G 12 0 27) → 0 ≤ (gA G 219 0 (i)) ∧ (gA G 219 0 (i)) < 150 := fun i a b => by have := (iF.2.2.2.2.2 i a (by omega)).1; omega
  have mhsent : ∀ l, 0 ≤ l → l < (gF G 12 0 29) → 0 ≤ (gA G 223 0 (l)) ∧ (gA G 223 0 (l)) ≤ 600 := fun l a b => by have := iF.2.2.2.1 l a (by omega); omega
  have hpr : 0 ≤ (gF G 9 0 2) ∧ (gF G 9 0 2) ≤ 40 := iO.1.2
  have epr : (gF G 12 0 34) = (gF G 9 0 2) := iO.1.1
  have mhpr : 0 ≤ (gF G 12 0 34) ∧ (gF G 12 0 34) ≤ 40 := by omega
  unfold CallOk CallPhi
  refine sp_X11_letter (d := d + 999) (by first | assumption | exact hf | omega) (by first | assumption | exact hlt | omega) (by first | assumption | exact hday | omega) ?_ ?_
  · intro c1
    refine sp_X12_letter (d := d + 1000) (by first | assumption | exact mhlt | omega) ?_ ?_
    · intro m1
      replace m1 : (gF G 12 (0) 29) = 60 := m1
      exact ⟨⟨rfl, _, rfl⟩, iL, iP, iS, iF, iO, iE, iT, iR, iB, iX, iH, iG, iQ, iN, iA, iJ⟩
    · intro m1
      replace m1 : (gF G 12 (0) 29) < 60 := m1
      exfalso; omega
  · intro c1
    refine sp_X12_letter (d := d + 1000) (by first | assumption | exact mhlt | omega) ?_ ?_
    · intro m1
      replace m1 : (gF G 12 (0) 29) = 60 := m1
      exfalso; omega
    · intro m1
      replace m1 : (gF G 12 (0) 29) < 60 := m1
      show (some (vI ((gF G 12 (0) 29) + 1)) = some (vI ((gF G 9 0 1) + 1)) ∧ ∃ vz, some (vI ((gF G 9 0 1) + 1)) = some (vI vz)) ∧ Inv w.1.2 (sF (sA (sF (uA (sF G 9 (0) 9 ((gF G 1 0 2))) 87 (0) ((filF (fun j0 => (gA G 87 0 (j0)) = 1000000000) (fun j0 => (gF G 1 0 2) + 7) (gA G 87 0) (gF G 9 0 0)))) 9 (0) 1 ((gF G 9 0 1) + 1)) 223 (0) ((gF G 12 (0) 29)) ((gF G 12 (0) 0))) 12 (0) 29 ((gF G 12 (0) 29) + 1)) (sF (sA (sF (uA (sF G 9 (0) 9 ((gF G 1 0 2))) 87 (0) ((filF (fun j0 => (gA G 87 0 (j0)) = 1000000000) (fun j0 => (gF G 1 0 2) + 7) (gA G 87 0) (gF G 9 0 0)))) 9 (0) 1 ((gF G 9 0 1) + 1)) 223 (0) ((gF G 12 (0) 29)) ((gF G 12 (0) 0))) 12 (0) 29 ((gF G 12 (0) 29) + 1))
      refine ⟨⟨by rw [el], _, rfl⟩, iL, iP, iS, ?_, iO, iE, iT, iR, iB, iX, iH, iG, iQ, iN, iA, iJ⟩
      refine ⟨iF.1, by simp only [gF_sF, gF_sA, gF_uA, gF_sD, gA_sF, gA_sA, gA_uA, gA_sD, gD_sF, gD_sA, gD_uA, gD_sD, Nat.reduceEqDiff, reduceCtorEq, false_and, and_false, true_and, and_true, ite_true, ite_false, if_true, if_false, ↓reduceIte, and_self]; omega, Or.inr ⟨by simp only [gF_sF, gF_sA, gF_uA, gF_sD, gA_sF, gA_sA, gA_uA, gA_sD, gD_sF, gD_sA, gD_uA, gD_sD, Nat.reduceEqDiff, reduceCtorEq, false_and, and_false, true_and, and_true, ite_true, ite_false, if_true, if_false, ↓reduceIte, and_self]; omega, ?_⟩, ?_, ?_, ?_⟩
      · simp only [gF_sF, gF_sA, gF_uA, gF_sD, gA_sF, gA_sA, gA_uA, gA_sD, gD_sF, gD_sA, gD_uA, gD_sD, Nat.reduceEqDiff, reduceCtorEq, false_and, and_false, true_and, and_true, ite_true, ite_false, if_true, if_false, ↓reduceIte, and_self, el]; rw [if_pos (by omega)]; exact ed.symm
      · simp only [gF_sF, gF_sA, gF_uA, gF_sD, gA_sF, gA_sA, gA_uA, gA_sD, gD_sF, gD_sA, gD_uA, gD_sD, Nat.reduceEqDiff, reduceCtorEq, false_and, and_false, true_and, and_true, ite_true, ite_false, if_true, if_false, ↓reduceIte, and_self]
        refine all_s (fun i a b => ?_) ?_
        · have e : i ≠ (gF G 9 0 1) := by omega
          simp only [gF_sF, gF_sA, gF_uA, gF_sD, gA_sF, gA_sA, gA_uA, gA_sD, gD_sF, gD_sA, gD_uA, gD_sD, Nat.reduceEqDiff, reduceCtorEq, false_and, and_false, true_and, and_true, ite_true, ite_false, if_true, if_false, ↓reduceIte, and_self, e, el]
          exact iF.2.2.2.1 i a b
        · simp only [gF_sF, gF_sA, gF_uA, gF_sD, gA_sF, gA_sA, gA_uA, gA_sD, gD_sF, gD_sA, gD_uA, gD_sD, Nat.reduceEqDiff, reduceCtorEq, false_and, and_false, true_and, and_true, ite_true, ite_false, if_true, if_false, ↓reduceIte, and_self, el]
          omega
      · simp only [gF_sF, gF_sA, gF_uA, gF_sD, gA_sF, gA_sA, gA_uA, gA_sD, gD_sF, gD_sA, gD_uA, gD_sD, Nat.reduceEqDiff, reduceCtorEq, false_and, and_false, true_and, and_true, ite_true, ite_false, if_true, if_false, ↓reduceIte, and_self, el]
        intro k l a b c
        by_cases e : l = (gF G 9 0 1)
        · rw [if_pos e]
          by_cases e2 : k = (gF G 9 0 1)
          · rw [if_pos e2]; omega
          · rw [if_neg e2]; have := iF.2.2.2.1 k a (by omega); omega
        · rw [if_neg e, if_neg (by omega)]; exact iF.2.2.2.2.1 k l a b (by omega)
      · simp only [gF_sF, gF_sA, gF_uA, gF_sD, gA_sF, gA_sA, gA_uA, gA_sD, gD_sF, gD_sA, gD_uA, gD_sD, Nat.reduceEqDiff, reduceCtorEq, false_and, and_false, true_and, and_true, ite_true, ite_false, if_true, if_false, ↓reduceIte, and_self]
        intro i a b
        have h := iF.2.2.2.2.2 i a b
        refine ⟨h.1, h.2.1, h.2.2.1, h.2.2.2.1, ?_⟩
        have hq := comes_letter (day := (gF G 1 0 2)) hlt.1 h.2.2.2.2 (by omega) (fun l x y => by have := iF.2.2.2.1 l x y; omega)
        have e1 : filF (fun j0 => (gA G 87 0 (j0)) = 1000000000) (fun j0 => (gF G 1 0 2) + 7) (gA G 87 0) (gF G 9 0 0) i = if (gA G 87 0 (i)) = 1000000000 then (gF G 1 0 2) + 7 else (gA G 87 0 (i)) := by
          by_cases e : (gA G 87 0 (i)) = 1000000000
          · rw [fil_t (q := fun j0 => (gA G 87 0 (j0)) = 1000000000) a b e, if_pos e]
          · rw [fil_f (q := fun j0 => (gA G 87 0 (j0)) = 1000000000) (fun z => e z.2.2), if_neg e]
        rw [e1]
        refine cast (congrArg (fun f => comesOk _ f _ _) ?_) hq
        funext j
        unfold upA
        simp only [gF_sF, gF_sA, gF_uA, gF_sD, gA_sF, gA_sA, gA_uA, gA_sD, gD_sF, gD_sA, gD_uA, gD_sD, Nat.reduceEqDiff, reduceCtorEq, false_and, and_false, true_and, and_true, ite_true, ite_false, if_true, if_false, ↓reduceIte, and_self, el, ed]
set_option maxRecDepth 10000 in
theorem call_known {l : Launch} {w : Wo} {d : Nat} {G : PH} (hI : Inv w.1.2 G G) {z : Int} {p : Int} {s : Int} {k : Int} : CallOk l w d M_X11_known M_X12_known [some (vR 11 (0)), some (vI (z)), some (vI (p)), some (vI (s)), some (vI (k))] [some (vR 12 (0)), some (vI (z)), some (vI (p)), some (vI (s)), some (vI (k))] G := by
  obtain ⟨iL, iP, iS, iF, iO, iE, iT, iR, iB, iX, iH, iG, iQ, iN, iA, iJ⟩ := hI
  have hsz : 0 ≤ (gF G 1 0 1) ∧ (gF G 1 0 1) ≤ 150 := by have := iP.1; omega
  have ep : (gF G 12 0 17) = (gF G 1 0 1) := iP.1.2.2
  have mhsz : 0 ≤ (gF G 12 0 17) ∧ (gF G 12 0 17) ≤ 150 := by omega
  have hp : ∀ i, 0 ≤ i → i < (gF G 1 0 1) → gD G 30 0 i = some (3, i) := fun i a b => (iP.2.2.2 i a b).1.1
  have hcw := cnt_le (owP G) hsz.1
  have es : (gF G 12 0 22) = (gF G 1 0 3) := iS.1.1
  have hst : 0 ≤ (gF G 1 0 3) ∧ (gF G 1 0 3) ≤ 400 := by have := iS.1; omega
  have mhst : 0 ≤ (gF G 12 0 22) ∧ (gF G 12 0 22) ≤ 400 := by omega
  have hday : 0 ≤ (gF G 1 0 2) ∧ (gF G 1 0 2) ≤ 600 := iP.2.1.2
  have ed : (gF G 12 0 0) = (gF G 1 0 2) := iP.2.1.1
  have hpf := pf iP p
  have hf : 0 ≤ (gF G 9 0 0) ∧ (gF G 9 0 0) ≤ 300 := iF.1.2
  have ef : (gF G 12 0 27) = (gF G 9 0 0) := iF.1.1
  have mhf : 0 ≤ (gF G 12 0 27) ∧ (gF G 12 0 27) ≤ 300 := by omega
  have hlt : 0 ≤ (gF G 9 0 1) ∧ (gF G 9 0 1) ≤ 60 := iF.2.1.2
  have el : (gF G 12 0 29) = (gF G 9 0 1) := iF.2.1.1
  have mhlt : 0 ≤ (gF G 12 0 29) ∧ (gF G 12 0 29) ≤ 60 := by omega
  have mhofs : ∀ i, 0 ≤ i → i < (gF G 12 0 27) → 0 ≤ (gA G 219 0 (i)) ∧ (gA G 219 0 (i)) < 150 := fun i a b => by have := (iF.2.2.2.2.2 i a (by omega)).1; omega
  have mhsent : ∀ l, 0 ≤ l → l < (gF G 12 0 29) → 0 ≤ (gA G 223 0 (l)) ∧ (gA G 223 0 (l)) ≤ 600 := fun l a b => by have := iF.2.2.2.1 l a (by omega); omega
  have hpr : 0 ≤ (gF G 9 0 2) ∧ (gF G 9 0 2) ≤ 40 := iO.1.2
  have epr : (gF G 12 0 34) = (gF G 9 0 2) := iO.1.1
  have mhpr : 0 ≤ (gF G 12 0 34) ∧ (gF G 12 0 34) ≤ 40 := by omega
  have hnum : (0 ≤ p ∧ p < (gF G 1 0 1)) → (gF G 3 (p) 0) = p := fun _ => by omega
  unfold CallOk CallPhi
  refine sp_X11_known (d := d + 997) (by first | assumption | exact hp | omega) (by first | assumption | exact hsz | omega) (by first | assumption | exact hf | omega) (by first | assumption | exact hnum | omega) ?_ ?_
  · intro c1
    refine sp_X12_known (d := d + 998) (by first | assumption | exact mhsz | omega) (by first | assumption | exact mhf | omega) (by first | assumption | exact mhlt | omega) (by first | assumption | exact mhofs | omega) (by first | assumption | exact mhsent | omega) ?_ ?_
    · intro m1
      replace m1 : ¬ ((0 ≤ z ∧ z ≤ 1) ∧ (0 ≤ p ∧ p < (gF G 12 (0) 17)) ∧ (0 ≤ s ∧ s ≤ 2) ∧ 0 ≤ k ∧ k ≤ 600) := m1
      exact ⟨⟨rfl, _, rfl⟩, iL, iP, iS, iF, iO, iE, iT, iR, iB, iX, iH, iG, iQ, iN, iA, iJ⟩
    · intro m1
      replace m1 : ((0 ≤ z ∧ z ≤ 1) ∧ (0 ≤ p ∧ p < (gF G 12 (0) 17)) ∧ (0 ≤ s ∧ s ≤ 2) ∧ 0 ≤ k ∧ k ≤ 600) := m1
      exfalso; omega
  · intro c1
    refine sp_X12_known (d := d + 998) (by first | assumption | exact mhsz | omega) (by first | assumption | exact mhf | omega) (by first | assumption | exact mhlt | omega) (by first | assumption | exact mhofs | omega) (by first | assumption | exact mhsent | omega) ?_ ?_
    · intro m1
      replace m1 : ¬ ((0 ≤ z ∧ z ≤ 1) ∧ (0 ≤ p ∧ p < (gF G 12 (0) 17)) ∧ (0 ≤ s ∧ s ≤ 2) ∧ 0 ≤ k ∧ k ≤ 600) := m1
      exfalso; omega
    · intro m1
      replace m1 : ((0 ≤ z ∧ z ≤ 1) ∧ (0 ≤ p ∧ p < (gF G 12 (0) 17)) ∧ (0 ≤ s ∧ s ≤ 2) ∧ 0 ≤ k ∧ k ≤ 600) := m1
      show (some (vI (lastOf (fun i => ((gA G 219 (0) (i)) = p ∧ (gA G 220 (0) (i)) = s ∧ ((((gA G 205 (0) ((gA G 219 (0) (i)))) = z ↔ (gA G 220 (0) (i)) ≠ 2) ∧ (gA G 222 (0) (i)) ≤ k) ∨ (¬ ((gA G 205 (0) ((gA G 219 (0) (i)))) = z ↔ (gA G 220 (0) (i)) ≠ 2) ∧ cmF (gF G 12 (0) 29) (gA G 223 0) (gA G 222 (0) (i)) 100000 ≤ k)))) (gA G 221 0) 0 (gF G 12 (0) 27))) = some (vI (lastOf (fun i => ((gA G 83 0 (i)) = p ∧ (gA G 84 0 (i)) = s ∧ ((((s = 2 ∧ z ≠ (gF G 3 (p) 2)) ∨ (s ≠ 2 ∧ z = (gF G 3 (p) 2))) ∧ (gA G 86 0 (i)) ≤ k) ∨ (¬ ((s = 2 ∧ z ≠ (gF G 3 (p) 2)) ∨ (s ≠ 2 ∧ z = (gF G 3 (p) 2))) ∧ (gA G 87 0 (i)) ≤ k)))) (gA G 85 0) 0 (gF G 9 0 0))) ∧ ∃ vz, some (vI (lastOf (fun i => ((gA G 83 0 (i)) = p ∧ (gA G 84 0 (i)) = s ∧ ((((s = 2 ∧ z ≠ (gF G 3 (p) 2)) ∨ (s ≠ 2 ∧ z = (gF G 3 (p) 2))) ∧ (gA G 86 0 (i)) ≤ k) ∨ (¬ ((s = 2 ∧ z ≠ (gF G 3 (p) 2)) ∨ (s ≠ 2 ∧ z = (gF G 3 (p) 2))) ∧ (gA G 87 0 (i)) ≤ k)))) (gA G 85 0) 0 (gF G 9 0 0))) = some (vI vz)) ∧ Inv w.1.2 G G
      refine ⟨⟨by rw [known_eq iP iF c1.1 c1.2.1 c1.2.2.1 c1.2.2.2.2], _, rfl⟩, iL, iP, iS, iF, iO, iE, iT, iR, iB, iX, iH, iG, iQ, iN, iA, iJ⟩
set_option maxRecDepth 10000 in
theorem call_promise {l : Launch} {w : Wo} {d : Nat} {G : PH} (hI : Inv w.1.2 G G) {z : Int} {n : Int} {t : Int} : CallOk l w d M_X11_promise M_X12_promise [some (vR 11 (0)), some (vI (z)), some (vI (n)), some (vI (t))] [some (vR 12 (0)), some (vI (z)), some (vI (n)), some (vI (t))] G := by
  obtain ⟨iL, iP, iS, iF, iO, iE, iT, iR, iB, iX, iH, iG, iQ, iN, iA, iJ⟩ := hI
  have hsz : 0 ≤ (gF G 1 0 1) ∧ (gF G 1 0 1) ≤ 150 := by have := iP.1; omega
  have ep : (gF G 12 0 17) = (gF G 1 0 1) := iP.1.2.2
  have mhsz : 0 ≤ (gF G 12 0 17) ∧ (gF G 12 0 17) ≤ 150 := by omega
  have hp : ∀ i, 0 ≤ i → i < (gF G 1 0 1) → gD G 30 0 i = some (3, i) := fun i a b => (iP.2.2.2 i a b).1.1
  have hcw := cnt_le (owP G) hsz.1
  have es : (gF G 12 0 22) = (gF G 1 0 3) := iS.1.1
  have hst : 0 ≤ (gF G 1 0 3) ∧ (gF G 1 0 3) ≤ 400 := by have := iS.1; omega
  have mhst : 0 ≤ (gF G 12 0 22) ∧ (gF G 12 0 22) ≤ 400 := by omega
  have hday : 0 ≤ (gF G 1 0 2) ∧ (gF G 1 0 2) ≤ 600 := iP.2.1.2
  have ed : (gF G 12 0 0) = (gF G 1 0 2) := iP.2.1.1
  have hf : 0 ≤ (gF G 9 0 0) ∧ (gF G 9 0 0) ≤ 300 := iF.1.2
  have ef : (gF G 12 0 27) = (gF G 9 0 0) := iF.1.1
  have mhf : 0 ≤ (gF G 12 0 27) ∧ (gF G 12 0 27) ≤ 300 := by omega
  have hlt : 0 ≤ (gF G 9 0 1) ∧ (gF G 9 0 1) ≤ 60 := iF.2.1.2
  have el : (gF G 12 0 29) = (gF G 9 0 1) := iF.2.1.1
  have mhlt : 0 ≤ (gF G 12 0 29) ∧ (gF G 12 0 29) ≤ 60 := by omega
  have mhofs : ∀ i, 0 ≤ i → i < (gF G 12 0 27) → 0 ≤ (gA G 219 0 (i)) ∧ (gA G 219 0 (i)) < 150 := fun i a b => by have := (iF.2.2.2.2.2 i a (by omega)).1; omega
  have mhsent : ∀ l, 0 ≤ l → l < (gF G 12 0 29) → 0 ≤ (gA G 223 0 (l)) ∧ (gA G 223 0 (l)) ≤ 600 := fun l a b => by have := iF.2.2.2.1 l a (by omega); omega
  have hpr : 0 ≤ (gF G 9 0 2) ∧ (gF G 9 0 2) ≤ 40 := iO.1.2
  have epr : (gF G 12 0 34) = (gF G 9 0 2) := iO.1.1
  have mhpr : 0 ≤ (gF G 12 0 34) ∧ (gF G 12 0 34) ≤ 40 := by omega
  unfold CallOk CallPhi
  refine sp_X11_promise (d := d + 998) (by first | assumption | exact hpr | omega) ?_ ?_ ?_
  · intro c1
    refine sp_X12_promise (d := d + 998) (by first | assumption | exact mhpr | omega) ?_ ?_ ?_
    · intro m1
      replace m1 : ¬ ((0 ≤ z ∧ z ≤ 1) ∧ (1 ≤ n ∧ n ≤ 99) ∧ (gF G 12 (0) 0) ≤ t ∧ t ≤ 600) := m1
      exact ⟨⟨rfl, _, rfl⟩, iL, iP, iS, iF, iO, iE, iT, iR, iB, iX, iH, iG, iQ, iN, iA, iJ⟩
    · intro m1 m2
      replace m1 : ((0 ≤ z ∧ z ≤ 1) ∧ (1 ≤ n ∧ n ≤ 99) ∧ (gF G 12 (0) 0) ≤ t ∧ t ≤ 600) := m1
      replace m2 : ((gF G 12 (0) 34) = 40) := m2
      exfalso; omega
    · intro m1 m2
      replace m1 : ((0 ≤ z ∧ z ≤ 1) ∧ (1 ≤ n ∧ n ≤ 99) ∧ (gF G 12 (0) 0) ≤ t ∧ t ≤ 600) := m1
      replace m2 : ((gF G 12 (0) 34) < 40) := m2
      exfalso; omega
  · intro c1 c2
    refine sp_X12_promise (d := d + 998) (by first | assumption | exact mhpr | omega) ?_ ?_ ?_
    · intro m1
      replace m1 : ¬ ((0 ≤ z ∧ z ≤ 1) ∧ (1 ≤ n ∧ n ≤ 99) ∧ (gF G 12 (0) 0) ≤ t ∧ t ≤ 600) := m1
      exfalso; omega
    · intro m1 m2
      replace m1 : ((0 ≤ z ∧ z ≤ 1) ∧ (1 ≤ n ∧ n ≤ 99) ∧ (gF G 12 (0) 0) ≤ t ∧ t ≤ 600) := m1
      replace m2 : ((gF G 12 (0) 34) = 40) := m2
      exact ⟨⟨rfl, _, rfl⟩, iL, iP, iS, iF, iO, iE, iT, iR, iB, iX, iH, iG, iQ, iN, iA, iJ⟩
    · intro m1 m2
      replace m1 : ((0 ≤ z ∧ z ≤ 1) ∧ (1 ≤ n ∧ n ≤ 99) ∧ (gF G 12 (0) 0) ≤ t ∧ t ≤ 600) := m1
      replace m2 : ((gF G 12 (0) 34) < 40) := m2
      exfalso; omega
  · intro c1 c2
    refine sp_X12_promise (d := d + 998) (by first | assumption | exact mhpr | omega) ?_ ?_ ?_
    · intro m1
      replace m1 : ¬ ((0 ≤ z ∧ z ≤ 1) ∧ (1 ≤ n ∧ n ≤ 99) ∧ (gF G 12 (0) 0) ≤ t ∧ t ≤ 600) := m1
      exfalso; omega
    · intro m1 m2
      replace m1 : ((0 ≤ z ∧ z ≤ 1) ∧ (1 ≤ n ∧ n ≤ 99) ∧ (gF G 12 (0) 0) ≤ t ∧ t ≤ 600) := m1
      replace m2 : ((gF G 12 (0) 34) = 40) := m2
      exfalso; omega
    · intro m1 m2
      replace m1 : ((0 ≤ z ∧ z ≤ 1) ∧ (1 ≤ n ∧ n ≤ 99) ∧ (gF G 12 (0) 0) ≤ t ∧ t ≤ 600) := m1
      replace m2 : ((gF G 12 (0) 34) < 40) := m2
      show (some (vI (gF G 12 (0) 34)) = some (vI (gF G 9 0 2)) ∧ ∃ vz, some (vI (gF G 9 0 2)) = some (vI vz)) ∧ Inv w.1.2 (sF (sA (sA (sA (sA (sF (sA (sA (sA (sA G 88 (0) ((gF G 9 0 2)) (z)) 89 (0) ((gF G 9 0 2)) (n)) 90 (0) ((gF G 9 0 2)) ((gF G 1 0 2))) 91 (0) ((gF G 9 0 2)) (t)) 9 (0) 2 ((gF G 9 0 2) + 1)) 224 (0) ((gF G 12 (0) 34)) (z)) 225 (0) ((gF G 12 (0) 34)) (n)) 226 (0) ((gF G 12 (0) 34)) ((gF G 12 (0) 0))) 227 (0) ((gF G 12 (0) 34)) (t)) 12 (0) 34 ((gF G 12 (0) 34) + 1)) (sF (sA (sA (sA (sA (sF (sA (sA (sA (sA G 88 (0) ((gF G 9 0 2)) (z)) 89 (0) ((gF G 9 0 2)) (n)) 90 (0) ((gF G 9 0 2)) ((gF G 1 0 2))) 91 (0) ((gF G 9 0 2)) (t)) 9 (0) 2 ((gF G 9 0 2) + 1)) 224 (0) ((gF G 12 (0) 34)) (z)) 225 (0) ((gF G 12 (0) 34)) (n)) 226 (0) ((gF G 12 (0) 34)) ((gF G 12 (0) 0))) 227 (0) ((gF G 12 (0) 34)) (t)) 12 (0) 34 ((gF G 12 (0) 34) + 1))
      refine ⟨⟨by rw [epr], _, rfl⟩, iL, iP, iS, iF, ?_, iE, iT, iR, iB, iX, iH, iG, iQ, iN, iA, iJ⟩
      refine ⟨by simp only [gF_sF, gF_sA, gF_uA, gF_sD, gA_sF, gA_sA, gA_uA, gA_sD, gD_sF, gD_sA, gD_uA, gD_sD, Nat.reduceEqDiff, reduceCtorEq, false_and, and_false, true_and, and_true, ite_true, ite_false, if_true, if_false, ↓reduceIte, and_self]; omega, ?_⟩
      simp only [gF_sF, gF_sA, gF_uA, gF_sD, gA_sF, gA_sA, gA_uA, gA_sD, gD_sF, gD_sA, gD_uA, gD_sD, Nat.reduceEqDiff, reduceCtorEq, false_and, and_false, true_and, and_true, ite_true, ite_false, if_true, if_false, ↓reduceIte, and_self]
      refine all_s (fun i a b => ?_) ?_
      · have e : i ≠ (gF G 9 0 2) := by omega
        simp only [gF_sF, gF_sA, gF_uA, gF_sD, gA_sF, gA_sA, gA_uA, gA_sD, gD_sF, gD_sA, gD_uA, gD_sD, Nat.reduceEqDiff, reduceCtorEq, false_and, and_false, true_and, and_true, ite_true, ite_false, if_true, if_false, ↓reduceIte, and_self, e, epr]
        exact iO.2 i a b
      · simp only [gF_sF, gF_sA, gF_uA, gF_sD, gA_sF, gA_sA, gA_uA, gA_sD, gD_sF, gD_sA, gD_uA, gD_sD, Nat.reduceEqDiff, reduceCtorEq, false_and, and_false, true_and, and_true, ite_true, ite_false, if_true, if_false, ↓reduceIte, and_self, epr]
        refine ⟨by omega, ?_⟩
        omega
set_option maxRecDepth 10000 in
theorem call_ofPromise {l : Launch} {w : Wo} {d : Nat} {G : PH} (hI : Inv w.1.2 G G) {j : Int} {k : Int} : CallOk l w d M_X11_ofPromise M_X12_ofPromise [some (vR 11 (0)), some (vI (j)), some (vI (k))] [some (vR 12 (0)), some (vI (j)), some (vI (k))] G := by
  obtain ⟨iL, iP, iS, iF, iO, iE, iT, iR, iB, iX, iH, iG, iQ, iN, iA, iJ⟩ := hI
  have hsz : 0 ≤ (gF G 1 0 1) ∧ (gF G 1 0 1) ≤ 150 := by have := iP.1; omega
  have ep : (gF G 12 0 17) = (gF G 1 0 1) := iP.1.2.2
  have mhsz : 0 ≤ (gF G 12 0 17) ∧ (gF G 12 0 17) ≤ 150 := by omega
  have hp : ∀ i, 0 ≤ i → i < (gF G 1 0 1) → gD G 30 0 i = some (3, i) := fun i a b => (iP.2.2.2 i a b).1.1
  have hcw := cnt_le (owP G) hsz.1
  have es : (gF G 12 0 22) = (gF G 1 0 3) := iS.1.1
  have hst : 0 ≤ (gF G 1 0 3) ∧ (gF G 1 0 3) ≤ 400 := by have := iS.1; omega
  have mhst : 0 ≤ (gF G 12 0 22) ∧ (gF G 12 0 22) ≤ 400 := by omega
  have hday : 0 ≤ (gF G 1 0 2) ∧ (gF G 1 0 2) ≤ 600 := iP.2.1.2
  have ed : (gF G 12 0 0) = (gF G 1 0 2) := iP.2.1.1
  have hf : 0 ≤ (gF G 9 0 0) ∧ (gF G 9 0 0) ≤ 300 := iF.1.2
  have ef : (gF G 12 0 27) = (gF G 9 0 0) := iF.1.1
  have mhf : 0 ≤ (gF G 12 0 27) ∧ (gF G 12 0 27) ≤ 300 := by omega
  have hlt : 0 ≤ (gF G 9 0 1) ∧ (gF G 9 0 1) ≤ 60 := iF.2.1.2
  have el : (gF G 12 0 29) = (gF G 9 0 1) := iF.2.1.1
  have mhlt : 0 ≤ (gF G 12 0 29) ∧ (gF G 12 0 29) ≤ 60 := by omega
  have mhofs : ∀ i, 0 ≤ i → i < (gF G 12 0 27) → 0 ≤ (gA G 219 0 (i)) ∧ (gA G 219 0 (i)) < 150 := fun i a b => by have := (iF.2.2.2.2.2 i a (by omega)).1; omega
  have mhsent : ∀ l, 0 ≤ l → l < (gF G 12 0 29) → 0 ≤ (gA G 223 0 (l)) ∧ (gA G 223 0 (l)) ≤ 600 := fun l a b => by have := iF.2.2.2.1 l a (by omega); omega
  have hpr : 0 ≤ (gF G 9 0 2) ∧ (gF G 9 0 2) ≤ 40 := iO.1.2
  have epr : (gF G 12 0 34) = (gF G 9 0 2) := iO.1.1
  have mhpr : 0 ≤ (gF G 12 0 34) ∧ (gF G 12 0 34) ≤ 40 := by omega
  unfold CallOk CallPhi
  refine sp_X11_ofPromise (d := d + 997) (by first | assumption | exact hp | omega) (by first | assumption | exact hsz | omega) (by first | assumption | exact hpr | omega) ?_ ?_
  · intro c1
    refine sp_X12_ofPromise (d := d + 997) (by first | assumption | exact mhsz | omega) (by first | assumption | exact mhpr | omega) ?_ ?_
    · intro m1
      replace m1 : ¬ (0 ≤ j ∧ j < (gF G 12 (0) 34)) := m1
      exact ⟨⟨rfl, _, rfl⟩, iL, iP, iS, iF, iO, iE, iT, iR, iB, iX, iH, iG, iQ, iN, iA, iJ⟩
    · intro m1 v2 m2
      replace m1 : (0 ≤ j ∧ j < (gF G 12 (0) 34)) := m1
      replace m2 : ((k = 0 ∧ v2 = (gA G 224 (0) (j))) ∨ (k = 1 ∧ v2 = (gA G 225 (0) (j))) ∨ (k = 2 ∧ v2 = (gA G 227 (0) (j))) ∨ (k = 3 ∧ v2 = cnt (fun i1 => ((gA G 206 (0) (i1)) = 5 ∧ (gA G 205 (0) (i1)) = (gA G 224 (0) (j))) ∧ (gA G 226 (0) (j)) ≤ (gA G 213 (0) (i1)) ∧ (gA G 213 (0) (i1)) ≤ (gA G 227 (0) (j))) (gF G 12 (0) 17)) ∨ (k = 4 ∧ ((((gA G 227 (0) (j)) < (gF G 12 (0) 0) ∧ cnt (fun i1 => ((gA G 206 (0) (i1)) = 5 ∧ (gA G 205 (0) (i1)) = (gA G 224 (0) (j))) ∧ (gA G 226 (0) (j)) ≤ (gA G 213 (0) (i1)) ∧ (gA G 213 (0) (i1)) ≤ (gA G 227 (0) (j))) (gF G 12 (0) 17) < (gA G 225 (0) (j))) ∧ v2 = 1) ∨ (¬ ((gA G 227 (0) (j)) < (gF G 12 (0) 0) ∧ cnt (fun i1 => ((gA G 206 (0) (i1)) = 5 ∧ (gA G 205 (0) (i1)) = (gA G 224 (0) (j))) ∧ (gA G 226 (0) (j)) ≤ (gA G 213 (0) (i1)) ∧ (gA G 213 (0) (i1)) ≤ (gA G 227 (0) (j))) (gF G 12 (0) 17) < (gA G 225 (0) (j))) ∧ v2 = 0))) ∨ (¬ (0 ≤ k ∧ k ≤ 4) ∧ v2 = -1)) := m2
      exfalso; omega
  · intro c1 v c2
    refine sp_X12_ofPromise (d := d + 997) (by first | assumption | exact mhsz | omega) (by first | assumption | exact mhpr | omega) ?_ ?_
    · intro m1
      replace m1 : ¬ (0 ≤ j ∧ j < (gF G 12 (0) 34)) := m1
      exfalso; omega
    · intro m1 v2 m2
      replace m1 : (0 ≤ j ∧ j < (gF G 12 (0) 34)) := m1
      replace m2 : ((k = 0 ∧ v2 = (gA G 224 (0) (j))) ∨ (k = 1 ∧ v2 = (gA G 225 (0) (j))) ∨ (k = 2 ∧ v2 = (gA G 227 (0) (j))) ∨ (k = 3 ∧ v2 = cnt (fun i1 => ((gA G 206 (0) (i1)) = 5 ∧ (gA G 205 (0) (i1)) = (gA G 224 (0) (j))) ∧ (gA G 226 (0) (j)) ≤ (gA G 213 (0) (i1)) ∧ (gA G 213 (0) (i1)) ≤ (gA G 227 (0) (j))) (gF G 12 (0) 17)) ∨ (k = 4 ∧ ((((gA G 227 (0) (j)) < (gF G 12 (0) 0) ∧ cnt (fun i1 => ((gA G 206 (0) (i1)) = 5 ∧ (gA G 205 (0) (i1)) = (gA G 224 (0) (j))) ∧ (gA G 226 (0) (j)) ≤ (gA G 213 (0) (i1)) ∧ (gA G 213 (0) (i1)) ≤ (gA G 227 (0) (j))) (gF G 12 (0) 17) < (gA G 225 (0) (j))) ∧ v2 = 1) ∨ (¬ ((gA G 227 (0) (j)) < (gF G 12 (0) 0) ∧ cnt (fun i1 => ((gA G 206 (0) (i1)) = 5 ∧ (gA G 205 (0) (i1)) = (gA G 224 (0) (j))) ∧ (gA G 226 (0) (j)) ≤ (gA G 213 (0) (i1)) ∧ (gA G 213 (0) (i1)) ≤ (gA G 227 (0) (j))) (gF G 12 (0) 17) < (gA G 225 (0) (j))) ∧ v2 = 0))) ∨ (¬ (0 ≤ k ∧ k ≤ 4) ∧ v2 = -1)) := m2
      show (some (vI v2) = some (vI v) ∧ ∃ vz, some (vI v) = some (vI vz)) ∧ Inv w.1.2 G G
      have hd := done_eq iP iO c1.1 c1.2
      have hb := iO.2 j c1.1 c1.2
      have ev : v2 = v := by omega
      subst ev
      refine ⟨⟨rfl, _, rfl⟩, iL, iP, iS, iF, iO, iE, iT, iR, iB, iX, iH, iG, iQ, iN, iA, iJ⟩
set_option maxRecDepth 10000 in
theorem call_broken {l : Launch} {w : Wo} {d : Nat} {G : PH} (hI : Inv w.1.2 G G) {z : Int} {d0 : Int} : CallOk l w d M_X11_broken M_X12_broken [some (vR 11 (0)), some (vI (z)), some (vI (d0))] [some (vR 12 (0)), some (vI (z)), some (vI (d0))] G := by
  obtain ⟨iL, iP, iS, iF, iO, iE, iT, iR, iB, iX, iH, iG, iQ, iN, iA, iJ⟩ := hI
  have hsz : 0 ≤ (gF G 1 0 1) ∧ (gF G 1 0 1) ≤ 150 := by have := iP.1; omega
  have ep : (gF G 12 0 17) = (gF G 1 0 1) := iP.1.2.2
  have mhsz : 0 ≤ (gF G 12 0 17) ∧ (gF G 12 0 17) ≤ 150 := by omega
  have hp : ∀ i, 0 ≤ i → i < (gF G 1 0 1) → gD G 30 0 i = some (3, i) := fun i a b => (iP.2.2.2 i a b).1.1
  have hcw := cnt_le (owP G) hsz.1
  have es : (gF G 12 0 22) = (gF G 1 0 3) := iS.1.1
  have hst : 0 ≤ (gF G 1 0 3) ∧ (gF G 1 0 3) ≤ 400 := by have := iS.1; omega
  have mhst : 0 ≤ (gF G 12 0 22) ∧ (gF G 12 0 22) ≤ 400 := by omega
  have hday : 0 ≤ (gF G 1 0 2) ∧ (gF G 1 0 2) ≤ 600 := iP.2.1.2
  have ed : (gF G 12 0 0) = (gF G 1 0 2) := iP.2.1.1
  have hf : 0 ≤ (gF G 9 0 0) ∧ (gF G 9 0 0) ≤ 300 := iF.1.2
  have ef : (gF G 12 0 27) = (gF G 9 0 0) := iF.1.1
  have mhf : 0 ≤ (gF G 12 0 27) ∧ (gF G 12 0 27) ≤ 300 := by omega
  have hlt : 0 ≤ (gF G 9 0 1) ∧ (gF G 9 0 1) ≤ 60 := iF.2.1.2
  have el : (gF G 12 0 29) = (gF G 9 0 1) := iF.2.1.1
  have mhlt : 0 ≤ (gF G 12 0 29) ∧ (gF G 12 0 29) ≤ 60 := by omega
  have mhofs : ∀ i, 0 ≤ i → i < (gF G 12 0 27) → 0 ≤ (gA G 219 0 (i)) ∧ (gA G 219 0 (i)) < 150 := fun i a b => by have := (iF.2.2.2.2.2 i a (by omega)).1; omega
  have mhsent : ∀ l, 0 ≤ l → l < (gF G 12 0 29) → 0 ≤ (gA G 223 0 (l)) ∧ (gA G 223 0 (l)) ≤ 600 := fun l a b => by have := iF.2.2.2.1 l a (by omega); omega
  have hpr : 0 ≤ (gF G 9 0 2) ∧ (gF G 9 0 2) ≤ 40 := iO.1.2
  have epr : (gF G 12 0 34) = (gF G 9 0 2) := iO.1.1
  have mhpr : 0 ≤ (gF G 12 0 34) ∧ (gF G 12 0 34) ≤ 40 := by omega
  unfold CallOk CallPhi
  refine sp_X11_broken (d := d + 996) (by first | assumption | exact hp | omega) (by first | assumption | exact hsz | omega) (by first | assumption | exact hpr | omega) ?_ ?_
  · intro c1
    refine sp_X12_broken (d := d + 996) (by first | assumption | exact mhsz | omega) (by first | assumption | exact mhpr | omega) ?_ ?_
    · intro m1
      replace m1 : ¬ ((0 ≤ z ∧ z ≤ 1) ∧ 0 ≤ d0 ∧ d0 ≤ (gF G 12 (0) 0)) := m1
      exact ⟨⟨rfl, _, rfl⟩, iL, iP, iS, iF, iO, iE, iT, iR, iB, iX, iH, iG, iQ, iN, iA, iJ⟩
    · intro m1
      replace m1 : ((0 ≤ z ∧ z ≤ 1) ∧ 0 ≤ d0 ∧ d0 ≤ (gF G 12 (0) 0)) := m1
      exfalso; omega
  · intro c1
    refine sp_X12_broken (d := d + 996) (by first | assumption | exact mhsz | omega) (by first | assumption | exact mhpr | omega) ?_ ?_
    · intro m1
      replace m1 : ¬ ((0 ≤ z ∧ z ≤ 1) ∧ 0 ≤ d0 ∧ d0 ≤ (gF G 12 (0) 0)) := m1
      exfalso; omega
    · intro m1
      replace m1 : ((0 ≤ z ∧ z ≤ 1) ∧ 0 ≤ d0 ∧ d0 ≤ (gF G 12 (0) 0)) := m1
      show (some (vI (cnt (fun i0 => (gA G 224 (0) (i0)) = z ∧ ((gA G 227 (0) (i0)) < d0 ∧ cnt (fun i1 => ((gA G 206 (0) (i1)) = 5 ∧ (gA G 205 (0) (i1)) = (gA G 224 (0) (i0))) ∧ (gA G 226 (0) (i0)) ≤ (gA G 213 (0) (i1)) ∧ (gA G 213 (0) (i1)) ≤ (gA G 227 (0) (i0))) (gF G 12 (0) 17) < (gA G 225 (0) (i0)))) (gF G 12 (0) 34))) = some (vI (cnt (fun i0 => (gA G 88 0 (i0)) = z ∧ ((gA G 91 0 (i0)) < d0 ∧ cnt (fun i1 => ((gF G 3 (i1) 2) = (gA G 88 0 (i0)) ∧ (gF G 3 (i1) 8) = 5) ∧ (gA G 90 0 (i0)) ≤ (gF G 3 (i1) 9) ∧ (gF G 3 (i1) 9) ≤ (gA G 91 0 (i0))) (gF G 1 0 1) < (gA G 89 0 (i0)))) (gF G 9 0 2))) ∧ ∃ vz, some (vI (cnt (fun i0 => (gA G 88 0 (i0)) = z ∧ ((gA G 91 0 (i0)) < d0 ∧ cnt (fun i1 => ((gF G 3 (i1) 2) = (gA G 88 0 (i0)) ∧ (gF G 3 (i1) 8) = 5) ∧ (gA G 90 0 (i0)) ≤ (gF G 3 (i1) 9) ∧ (gF G 3 (i1) 9) ≤ (gA G 91 0 (i0))) (gF G 1 0 1) < (gA G 89 0 (i0)))) (gF G 9 0 2))) = some (vI vz)) ∧ Inv w.1.2 G G
      refine ⟨⟨by rw [broken_eq iP iO], _, rfl⟩, iL, iP, iS, iF, iO, iE, iT, iR, iB, iX, iH, iG, iQ, iN, iA, iJ⟩
