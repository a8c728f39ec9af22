/-! The least sums of days: what both programs compute. -/
def Wk (E : Int → Int → Int) (T : Int → Prop) (s : Int) : Nat → Int → Int → Prop
  | 0, v, x => v = s ∧ x = 0
  | k + 1, v, x => ∃ u y, 0 ≤ u ∧ u < 18 ∧ Wk E T s k u y ∧ T u ∧ 0 < E u v ∧ x = y + E u v
theorem Wk_nn {E : Int → Int → Int} {T : Int → Prop} {s : Int} : ∀ {k : Nat} {v x : Int}, Wk E T s k v x → 0 ≤ x
  | 0, v, x, h => by rw [h.2]; exact Int.le_refl 0
  | k + 1, v, x, h => by
    obtain ⟨u, y, -, -, hw, -, he, rfl⟩ := h
    have := Wk_nn hw
    omega
def IsD (E : Int → Int → Int) (T : Int → Prop) (s INF : Int) (D : Int → Int) : Prop :=
  D s = 0 ∧ (∀ v, 0 ≤ v → v < 18 → 0 ≤ D v ∧ D v ≤ INF) ∧ (∀ u v, 0 ≤ u → u < 18 → 0 ≤ v → v < 18 → T u → 0 < E u v → D u < INF → D v ≤ D u + E u v) ∧ ∀ v, 0 ≤ v → v < 18 → D v < INF → ∃ k, Wk E T s k v (D v)
theorem IsD_le {E : Int → Int → Int} {T : Int → Prop} {s INF : Int} {D : Int → Int} (h : IsD E T s INF D) : ∀ {k : Nat} {v x : Int}, 0 ≤ v → v < 18 → Wk E T s k v x → x < INF → D v ≤ x
  | 0, v, x, _, _, hw, _ => by rw [hw.1, hw.2, h.1]; exact Int.le_refl 0
  | k + 1, v, x, h0, h1, hw, hx => by
    obtain ⟨u, y, u0, u1, hw, ht, he, rfl⟩ := hw
    have h2 := IsD_le h u0 u1 hw (by omega)
    have h3 := h.2.2.1 u v u0 u1 h0 h1 ht he (by omega)
    omega
theorem Wk_congr {E E' : Int → Int → Int} {T T' : Int → Prop} {s : Int} (hE : ∀ u v, 0 ≤ u → u < 18 → 0 ≤ v → v < 18 → E u v = E' u v) (hT : ∀ u v, 0 ≤ u → u < 18 → 0 ≤ v → v < 18 → 0 < E u v → (T u ↔ T' u)) : ∀ {k : Nat} {v x : Int}, 0 ≤ v → v < 18 → Wk E T s k v x → Wk E' T' s k v x
  | 0, _, _, _, _, h => h
  | k + 1, v, x, h0, h1, h => by
    obtain ⟨u, y, u0, u1, hw, ht, he, rfl⟩ := h
    exact ⟨u, y, u0, u1, Wk_congr hE hT u0 u1 hw, (hT u v u0 u1 h0 h1 he).mp ht, by rw [← hE u v u0 u1 h0 h1]; exact he, by rw [hE u v u0 u1 h0 h1]⟩
theorem IsD_congr {E E' : Int → Int → Int} {T T' : Int → Prop} {s INF : Int} {D : Int → Int} (hE : ∀ u v, 0 ≤ u → u < 18 → 0 ≤ v → v < 18 → E u v = E' u v) (hT : ∀ u v, 0 ≤ u → u < 18 → 0 ≤ v → v < 18 → 0 < E u v → (T u ↔ T' u)) (h : IsD E T s INF D) : IsD E' T' s INF D := by
  refine ⟨h.1, h.2.1, fun u v u0 u1 v0 v1 ht he hd => ?_, fun v v0 v1 hd => ?_⟩
  · rw [← hE u v u0 u1 v0 v1] at he ⊢
    exact h.2.2.1 u v u0 u1 v0 v1 ((hT u v u0 u1 v0 v1 he).mpr ht) he hd
  · obtain ⟨k, hk⟩ := h.2.2.2 v v0 v1 hd
    exact ⟨k, Wk_congr hE hT v0 v1 hk⟩
/-- both answers are one -/
theorem far_one {E : Int → Int → Int} {T : Int → Prop} {s I1 I2 : Int} {D1 D2 : Int → Int} (h1 : IsD E T s I1 D1) (h2 : IsD E T s I2 D2) (hI : I1 ≤ I2) (hb : ∀ v, 0 ≤ v → v < 18 → D2 v < I2 → D2 v < I1) {v : Int} (v0 : 0 ≤ v) (v1 : v < 18) : (D1 v < I1 ↔ D2 v < I2) ∧ (D1 v < I1 → D1 v = D2 v) := by
  have a1 : D1 v < I1 → D2 v ≤ D1 v := fun h => by
    obtain ⟨k, hk⟩ := h1.2.2.2 v v0 v1 h
    exact IsD_le h2 v0 v1 hk (by omega)
  have a2 : D2 v < I2 → D1 v ≤ D2 v := fun h => by
    obtain ⟨k, hk⟩ := h2.2.2.2 v v0 v1 h
    exact IsD_le h1 v0 v1 hk (hb v v0 v1 h)
  refine ⟨⟨fun h => ?_, fun h => ?_⟩, fun h => ?_⟩
  · have := a1 h; omega
  · have := a2 h; have := hb v v0 v1 h; omega
  · have := a1 h
    have := a2 (by omega)
    omega
/-! the class's search -/
/-- what leadOn leaves, up to place n -/
noncomputable def ldF (D e : Int → Int) (z n : Int) : Int → Int := fun v => @ite Int (0 ≤ v ∧ v < n ∧ 0 < e v) (Classical.propDecidable _) (min (D v) (D z + e v)) (D v)
theorem ldF_0 (D e : Int → Int) (z : Int) : ldF D e z 0 = D := funext fun v => if_neg (by omega)
theorem ldF_at {D e : Int → Int} {z n : Int} : ldF D e z n z = D z := by
  unfold ldF
  by_cases h : 0 ≤ z ∧ z < n ∧ 0 < e z
  · rw [if_pos h]; omega
  · rw [if_neg h]
theorem ldF_n {D e : Int → Int} {z n : Int} : ldF D e z n n = D n := by
  unfold ldF
  exact if_neg (by omega)
theorem ldF_s {D e : Int → Int} {z n : Int} (h0 : 0 ≤ n) (h : 0 < e n) : upA (ldF D e z n) n (min (D n) (D z + e n)) = ldF D e z (n + 1) := by
  funext v
  unfold upA ldF
  by_cases hv : v = n
  · rw [if_pos hv, if_pos (by rw [hv]; exact ⟨h0, by omega, h⟩), hv]
  · rw [if_neg hv]
    by_cases q : 0 ≤ v ∧ v < n ∧ 0 < e v
    · rw [if_pos q, if_pos ⟨q.1, by omega, q.2.2⟩]
    · rw [if_neg q, if_neg (fun z => q ⟨z.1, by omega, z.2.2⟩)]
theorem ldF_k {D e : Int → Int} {z n : Int} (h : ¬ 0 < e n) : ldF D e z n = ldF D e z (n + 1) := by
  funext v
  unfold ldF
  by_cases q : 0 ≤ v ∧ v < n ∧ 0 < e v
  · rw [if_pos q, if_pos ⟨q.1, by omega, q.2.2⟩]
  · rw [if_neg q, if_neg]
    rintro ⟨q1, q2, q3⟩
    by_cases e1 : v = n
    · rw [e1] at q3; exact h q3
    · exact q ⟨q1, by omega, q3⟩
def NrOk (S D : Int → Int) (n z : Int) : Prop := (z = -1 ∧ ∀ v, 0 ≤ v → v < n → S v = 0 → 1000000000 ≤ D v) ∨ (0 ≤ z ∧ z < n ∧ S z = 0 ∧ D z < 1000000000 ∧ ∀ v, 0 ≤ v → v < n → S v = 0 → D z ≤ D v)
theorem NrOk_0 (S D : Int → Int) : NrOk S D 0 (-1) := Or.inl ⟨rfl, fun v h0 h1 => by omega⟩
theorem NrOk_skip {S D : Int → Int} {n z : Int} (h : NrOk S D n z) (hs : S n ≠ 0 ∨ 1000000000 ≤ D n ∨ (0 ≤ z ∧ D z ≤ D n)) : NrOk S D (n + 1) z := by
  rcases h with ⟨h1, h2⟩ | ⟨h1, h2, h3, h4, h5⟩
  · refine Or.inl ⟨h1, fun v v0 v1 hv => ?_⟩
    by_cases e : v = n
    · subst e
      rcases hs with q | q | q
      · exact absurd hv q
      · exact q
      · omega
    · exact h2 v v0 (by omega) hv
  · refine Or.inr ⟨h1, by omega, h3, h4, fun v v0 v1 hv => ?_⟩
    by_cases e : v = n
    · subst e
      rcases hs with q | q | q
      · exact absurd hv q
      · omega
      · exact q.2
    · exact h5 v v0 (by omega) hv
theorem NrOk_take {S D : Int → Int} {n z : Int} (h : NrOk S D n z) (h0 : 0 ≤ n) (hs : S n = 0) (hd : D n < 1000000000) (hz : z < 0 ∨ D n < D z) : NrOk S D (n + 1) n := by
  refine Or.inr ⟨h0, by omega, hs, hd, fun v v0 v1 hv => ?_⟩
  by_cases e : v = n
  · subst e; exact Int.le_refl _
  · rcases h with ⟨h1, h2⟩ | ⟨h1, h2, h3, h4, h5⟩
    · have := h2 v v0 (by omega) hv
      omega
    · have := h5 v v0 (by omega) hv
      omega
/-- the search's state: S settled (1), D distances, i of them settled -/
def DjI (E : Int → Int → Int) (T : Int → Prop) (s : Int) (S D : Int → Int) (i : Int) : Prop :=
  D s = 0 ∧ (∀ v, 0 ≤ v → v < 18 → D v = 1000000000 ∨ (0 ≤ D v ∧ D v ≤ 9 * i)) ∧ (∀ v, 0 ≤ v → v < 18 → D v < 1000000000 → ∃ k, Wk E T s k v (D v)) ∧
  (∀ v, 0 ≤ v → v < 18 → S v = 0 ∨ S v = 1) ∧ (∀ u, 0 ≤ u → u < 18 → S u = 1 → D u < 1000000000) ∧
  (∀ u v, 0 ≤ u → u < 18 → 0 ≤ v → v < 18 → S u = 1 → T u → 0 < E u v → D v ≤ D u + E u v) ∧ (∀ u v, 0 ≤ u → u < 18 → 0 ≤ v → v < 18 → S u = 1 → S v = 0 → D u ≤ D v) ∧ cnt (fun v => S v = 1) 18 = i
theorem cnt_upd {S : Int → Int} {z : Int} : ∀ {n : Int}, 0 ≤ n → 0 ≤ z → S z = 0 → cnt (fun v => upA S z 1 v = 1) n = cnt (fun v => S v = 1) n + (if z < n then 1 else 0) := by
  intro n hn hz hS
  obtain ⟨k, rfl⟩ : ∃ k : Nat, n = k := ⟨n.toNat, by omega⟩
  induction k with
  | zero => rw [if_neg (by omega)]; rfl
  | succ k ih =>
    have ih := ih (by omega)
    rw [show ((k + 1 : Nat) : Int) = (k : Int) + 1 by omega, cnt_s _ (by omega), cnt_s _ (by omega), ih]
    by_cases e : (k : Int) = z
    · have e1 : upA S z 1 (k : Int) = 1 := by unfold upA; rw [if_pos e]
      rw [b2i_t e1, b2i_f (by rw [e, hS]; decide), if_neg (by omega), if_pos (by omega)]
    · have e1 : upA S z 1 (k : Int) = S k := by unfold upA; rw [if_neg e]
      rw [b2i_congr (show upA S z 1 (k : Int) = 1 ↔ S k = 1 by rw [e1])]
      by_cases q : z < (k : Int)
      · rw [if_pos q, if_pos (by omega)]; omega
      · rw [if_neg q, if_neg (by omega)]; omega
theorem cnt_all {p : Int → Prop} : ∀ {n : Int}, cnt p n = n → ∀ i, 0 ≤ i → i < n → p i := by
  intro n h i h0 h1
  obtain ⟨k, rfl⟩ : ∃ k : Nat, n = k := ⟨n.toNat, by omega⟩
  induction k with
  | zero => omega
  | succ k ih =>
    rw [show ((k + 1 : Nat) : Int) = (k : Int) + 1 by omega, cnt_s _ (by omega)] at h
    have h2 := (cnt_le p (n := (k : Int)) (by omega)).2
    have h3 := b2i_01 (p (k : Int))
    by_cases e : i = k
    · rw [e]; exact b2i_eq1.mp (by omega)
    · exact ih (by omega) (by omega)
theorem Dj_0 {E : Int → Int → Int} {T : Int → Prop} {s : Int} {S D : Int → Int} (h0 : 0 ≤ s) (h1 : s < 18) (hD : ∀ v, 0 ≤ v → v < 18 → D v = 1000000000) (hS : ∀ v, 0 ≤ v → v < 18 → S v = 0) : DjI E T s S (upA D s 0) 0 := by
  have e : ∀ v, 0 ≤ v → v < 18 → upA D s 0 v = if v = s then 0 else 1000000000 := fun v a b => by
    unfold upA
    by_cases q : v = s
    · rw [if_pos q, if_pos q]
    · rw [if_neg q, if_neg q, hD v a b]
  refine ⟨by rw [e s h0 h1, if_pos rfl], fun v a b => ?_, fun v a b hv => ?_, fun v a b => Or.inl (hS v a b), fun u a b q => ?_, fun u v a b _ _ q => ?_, fun u v a b _ _ q => ?_, ?_⟩
  · rw [e v a b]; by_cases q : v = s
    · rw [if_pos q]; exact Or.inr ⟨Int.le_refl _, Int.le_refl _⟩
    · rw [if_neg q]; exact Or.inl rfl
  · rw [e v a b] at hv ⊢
    by_cases q : v = s
    · rw [if_pos q]; exact ⟨0, q, rfl⟩
    · rw [if_neg q] at hv; omega
  · rw [hS u a b] at q; omega
  · rw [hS u a b] at q; omega
  · rw [hS u a b] at q; omega
  · have : cnt (fun v => S v = 1) 18 = cnt (fun _ => False) 18 := cnt_congr fun i a b => ⟨fun q => by rw [hS i a b] at q; omega, fun q => q.elim⟩
    rw [this]
    have : ∀ n : Nat, cntN (fun _ => False) n = 0 := by
      intro n
      induction n with
      | zero => rfl
      | succ n ih => rw [cntN, ih, b2i_f id]; rfl
    exact this 18
/-- a step that goes on through z -/
theorem Dj_step {E : Int → Int → Int} {T : Int → Prop} {s : Int} {S D : Int → Int} {i z : Int} (h : DjI E T s S D i) (hi : 0 ≤ i) (hE : ∀ u v, 0 ≤ u → u < 18 → 0 ≤ v → v < 18 → E u v ≤ 9) (hn : NrOk S D 18 z) (hz : 0 ≤ z) (ht : T z) : DjI E T s (upA S z 1) (ldF D (E z) z 18) (i + 1) := by
  obtain ⟨a1, a2, a3, a4, a5, a6, a7, a8⟩ := h
  obtain ⟨h1, -⟩ | ⟨z0, z1, zS, zD, zm⟩ := hn
  · omega
  have L : ∀ v, 0 ≤ v → v < 18 → (0 < E z v ∧ ldF D (E z) z 18 v = min (D v) (D z + E z v)) ∨ (¬ 0 < E z v ∧ ldF D (E z) z 18 v = D v) := fun v b c => by
    unfold ldF
    by_cases q : 0 < E z v
    · exact Or.inl ⟨q, if_pos ⟨b, c, q⟩⟩
    · exact Or.inr ⟨q, if_neg (fun y => q y.2.2)⟩
  have le : ∀ v, 0 ≤ v → v < 18 → ldF D (E z) z 18 v ≤ D v := fun v b c => by
    rcases L v b c with ⟨-, q⟩ | ⟨-, q⟩ <;> omega
  have dz0 : 0 ≤ D z ∧ D z ≤ 9 * i := by
    rcases a2 z z0 z1 with q | q
    · omega
    · exact q
  have keep : ∀ u, 0 ≤ u → u < 18 → S u = 1 → ldF D (E z) z 18 u = D u := fun u b c hu => by
    have := a7 u z b c z0 z1 hu zS
    rcases L u b c with ⟨q0, q⟩ | ⟨-, q⟩ <;> omega
  have zk : ldF D (E z) z 18 z = D z := ldF_at
  have up : ∀ v, upA S z 1 v = 1 → v = z ∨ (v ≠ z ∧ S v = 1) := fun v q => by
    unfold upA at q
    by_cases e : v = z
    · exact Or.inl e
    · rw [if_neg e] at q; exact Or.inr ⟨e, q⟩
  have un : ∀ v, upA S z 1 v = 0 → v ≠ z ∧ S v = 0 := fun v q => by
    unfold upA at q
    by_cases e : v = z
    · rw [if_pos e] at q; omega
    · rw [if_neg e] at q; exact ⟨e, q⟩
  refine ⟨?_, fun v b c => ?_, fun v b c hv => ?_, fun v b c => ?_, fun u b c hu => ?_, fun u v b c d f hu htu he => ?_, fun u v b c d f hu hv => ?_, ?_⟩
  · by_cases hs : 0 ≤ s ∧ s < 18
    · rcases L s hs.1 hs.2 with ⟨q0, q⟩ | ⟨-, q⟩ <;> omega
    · unfold ldF
      rw [if_neg (fun y => hs ⟨y.1, y.2.1⟩), a1]
  · have := hE z v z0 z1 b c
    rcases a2 v b c with q1 | q1
    · rcases L v b c with ⟨q0, q⟩ | ⟨-, q⟩
      · exact Or.inr (by omega)
      · exact Or.inl (by omega)
    · refine Or.inr ?_
      rcases L v b c with ⟨q0, q⟩ | ⟨-, q⟩ <;> omega
  · rcases L v b c with ⟨q0, q⟩ | ⟨-, q⟩
    · by_cases hlt : D v ≤ D z + E z v
      · rw [show ldF D (E z) z 18 v = D v by omega] at hv ⊢
        exact a3 v b c hv
      · obtain ⟨k, hk⟩ := a3 z z0 z1 zD
        exact ⟨k + 1, z, D z, z0, z1, hk, ht, q0, by omega⟩
    · rw [q] at hv ⊢; exact a3 v b c hv
  · unfold upA
    by_cases e : v = z
    · rw [if_pos e]; exact Or.inr rfl
    · rw [if_neg e]; exact a4 v b c
  · rcases up u hu with rfl | ⟨-, q⟩
    · rw [zk]; exact zD
    · rw [keep u b c q]; exact a5 u b c q
  · rcases up u hu with rfl | ⟨-, q⟩
    · rw [zk]
      rcases L v d f with ⟨-, q⟩ | ⟨q0, -⟩
      · omega
      · exact absurd he q0
    · rw [keep u b c q]
      have := a6 u v b c d f q htu he
      have := le v d f
      omega
  · obtain ⟨-, hv⟩ := un v hv
    have m := zm v d f hv
    rcases up u hu with rfl | ⟨-, q⟩
    · rw [zk]
      rcases L v d f with ⟨q0, q⟩ | ⟨-, q⟩ <;> omega
    · rw [keep u b c q]
      have := a7 u z b c z0 z1 q zS
      rcases L v d f with ⟨q0, q⟩ | ⟨-, q⟩ <;> omega
  · rw [cnt_upd (by decide) z0 zS, a8, if_pos z1]
/-- a step that ends at z -/
theorem Dj_stop {E : Int → Int → Int} {T : Int → Prop} {s : Int} {S D : Int → Int} {i z : Int} (h : DjI E T s S D i) (hi : 0 ≤ i) (hn : NrOk S D 18 z) (hz : 0 ≤ z) (ht : ¬ T z) : DjI E T s (upA S z 1) D (i + 1) := by
  obtain ⟨a1, a2, a3, a4, a5, a6, a7, a8⟩ := h
  obtain ⟨h1, -⟩ | ⟨z0, z1, zS, zD, zm⟩ := hn
  · omega
  have up : ∀ v, upA S z 1 v = 1 → v = z ∨ (v ≠ z ∧ S v = 1) := fun v q => by
    unfold upA at q
    by_cases e : v = z
    · exact Or.inl e
    · rw [if_neg e] at q; exact Or.inr ⟨e, q⟩
  have un : ∀ v, upA S z 1 v = 0 → v ≠ z ∧ S v = 0 := fun v q => by
    unfold upA at q
    by_cases e : v = z
    · rw [if_pos e] at q; omega
    · rw [if_neg e] at q; exact ⟨e, q⟩
  refine ⟨a1, fun v b c => ?_, a3, fun v b c => ?_, fun u b c hu => ?_, fun u v b c d f hu htu he => ?_, fun u v b c d f hu hv => ?_, ?_⟩
  · rcases a2 v b c with q | q
    · exact Or.inl q
    · exact Or.inr (by omega)
  · unfold upA
    by_cases e : v = z
    · rw [if_pos e]; exact Or.inr rfl
    · rw [if_neg e]; exact a4 v b c
  · rcases up u hu with rfl | ⟨-, q⟩
    · exact zD
    · exact a5 u b c q
  · rcases up u hu with rfl | ⟨-, q⟩
    · exact absurd htu ht
    · exact a6 u v b c d f q htu he
  · obtain ⟨-, hv2⟩ := un v hv
    rcases up u hu with rfl | ⟨-, q⟩
    · exact zm v d f hv2
    · exact a7 u v b c d f q hv2
  · rw [cnt_upd (by decide) z0 zS, a8, if_pos z1]
theorem Dj_end {E : Int → Int → Int} {T : Int → Prop} {s : Int} {S D : Int → Int} {i z : Int} (h : DjI E T s S D i) (hi : 0 ≤ i ∧ i ≤ 18) (hn : NrOk S D 18 z) (he : z < 0 ∨ 18 ≤ i) : IsD E T s 1000000000 D ∧ ∀ v, 0 ≤ v → v < 18 → D v < 1000000000 → D v ≤ 162 := by
  obtain ⟨a1, a2, a3, a4, a5, a6, a7, a8⟩ := h
  have hset : ∀ u, 0 ≤ u → u < 18 → D u < 1000000000 → S u = 1 := fun u b c hd => by
    rcases a4 u b c with q | q
    · exfalso
      rcases he with he | he
      · rcases hn with ⟨-, h2⟩ | ⟨h1, -⟩
        · have := h2 u b c q; omega
        · omega
      · have := cnt_all (p := fun v => S v = 1) (n := 18) (by omega) u b c
        have : S u = 1 := this
        omega
    · exact q
  refine ⟨⟨a1, fun v b c => ?_, fun u v b c d f ht he2 hd => a6 u v b c d f (hset u b c hd) ht he2, a3⟩, fun v b c hd => ?_⟩
  · rcases a2 v b c with q | q <;> omega
  · rcases a2 v b c with q | q <;> omega
theorem Wk_pos {E : Int → Int → Int} {T : Int → Prop} {s : Int} {k : Nat} {v x : Int} (h : Wk E T s k v x) (hv : v ≠ s) : 0 < x := by
  cases k with
  | zero => exact absurd h.1 hv
  | succ k =>
    obtain ⟨u, y, -, -, hw, -, he, rfl⟩ := h
    have := Wk_nn hw
    omega
theorem IsD_pos {E : Int → Int → Int} {T : Int → Prop} {s INF : Int} {D : Int → Int} (h : IsD E T s INF D) {v : Int} (v0 : 0 ≤ v) (v1 : v < 18) (hv : v ≠ s) (hd : D v < INF) : 0 < D v := by
  obtain ⟨k, hk⟩ := h.2.2.2 v v0 v1 hd
  exact Wk_pos hk hv
/-! sums, things that hold of all up to a place -/
def sumN (f : Int → Int) : Nat → Int
  | 0 => 0
  | n + 1 => sumN f n + f n
def sumI (f : Int → Int) (n : Int) : Int := sumN f n.toNat
theorem sumI_0 (f : Int → Int) : sumI f 0 = 0 := rfl
theorem sumI_s (f : Int → Int) {n : Int} (h : 0 ≤ n) : sumI f (n + 1) = sumI f n + f n := by
  unfold sumI
  rw [show (n + 1).toNat = n.toNat + 1 by omega, sumN, Int.toNat_of_nonneg h]
theorem nat_ind {p : Int → Prop} (h0 : p 0) (hs : ∀ n, 0 ≤ n → p n → p (n + 1)) : ∀ n, 0 ≤ n → p n := by
  intro n hn
  obtain ⟨k, rfl⟩ : ∃ k : Nat, n = k := ⟨n.toNat, by omega⟩
  induction k with
  | zero => exact h0
  | succ k ih => rw [show ((k + 1 : Nat) : Int) = (k : Int) + 1 by omega]; exact hs k (by omega) (ih (by omega))
theorem sumI_congr {f g : Int → Int} {n : Int} (hn : 0 ≤ n) (h : ∀ i, 0 ≤ i → i < n → f i = g i) : sumI f n = sumI g n := by
  refine nat_ind (p := fun n => (∀ i, 0 ≤ i → i < n → f i = g i) → sumI f n = sumI g n) (fun _ => rfl) (fun n hn ih h => ?_) n hn h
  rw [sumI_s _ hn, sumI_s _ hn, ih (fun i a b => h i a (by omega)), h n hn (by omega)]
theorem sumI_upd {f : Int → Int} {v x n : Int} (hn : 0 ≤ n) (hv : 0 ≤ v) : sumI (upA f v x) n = sumI f n + (if v < n then x - f v else 0) := by
  refine nat_ind (p := fun n => sumI (upA f v x) n = sumI f n + (if v < n then x - f v else 0)) (by rw [if_neg (by omega)]; rfl) (fun n hn ih => ?_) n hn
  rw [sumI_s _ hn, sumI_s _ hn, ih]
  by_cases e : v = n
  · rw [e, if_neg (by omega), if_pos (by omega), show upA f n x n = x from if_pos rfl]; omega
  · rw [show upA f v x n = f n from if_neg (fun q => e q.symm)]
    by_cases q : v < n
    · rw [if_pos q, if_pos (by omega)]; omega
    · rw [if_neg q, if_neg (by omega)]; omega
theorem sumI_nn {f : Int → Int} {n : Int} (hn : 0 ≤ n) (h : ∀ i, 0 ≤ i → i < n → 0 ≤ f i) : 0 ≤ sumI f n := by
  refine nat_ind (p := fun n => (∀ i, 0 ≤ i → i < n → 0 ≤ f i) → 0 ≤ sumI f n) (fun _ => Int.le_refl 0) (fun n hn ih h => ?_) n hn h
  rw [sumI_s _ hn]
  have := ih (fun i a b => h i a (by omega))
  have := h n hn (by omega)
  omega
theorem sumI_le {f g : Int → Int} {n : Int} (hn : 0 ≤ n) (h : ∀ i, 0 ≤ i → i < n → f i ≤ g i) : sumI f n ≤ sumI g n := by
  refine nat_ind (p := fun n => (∀ i, 0 ≤ i → i < n → f i ≤ g i) → sumI f n ≤ sumI g n) (fun _ => Int.le_refl 0) (fun n hn ih h => ?_) n hn h
  rw [sumI_s _ hn, sumI_s _ hn]
  have := ih (fun i a b => h i a (by omega))
  have := h n hn (by omega)
  omega
theorem all_0 {p : Int → Prop} : ∀ i : Int, 0 ≤ i → i < 0 → p i := fun i a b => by omega
theorem all_s {p : Int → Prop} {n : Int} (h : ∀ i : Int, 0 ≤ i → i < n → p i) (hn : p n) : ∀ i : Int, 0 ≤ i → i < n + 1 → p i := fun i a b => by
  rcases Classical.em (i = n) with e | e
  · rw [e]; exact hn
  · exact h i a (by omega)
theorem upA_same (f : Int → Int) (i v : Int) : upA f i v i = v := if_pos rfl
theorem upA_ne {f : Int → Int} {i v j : Int} (h : j ≠ i) : upA f i v j = f j := if_neg h
